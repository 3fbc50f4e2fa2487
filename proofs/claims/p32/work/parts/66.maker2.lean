/-- the law's cell -/
def cnV (kv : Nat → Nat) (i : Nat) : Nat := if i < kv 19 then kv (20 + i) % 16777216 else i * 9151
theorem cnV_lt {kv : Nat → Nat} {i : Nat} (hi : i ≤ 5000) : cnV kv i < 2 ^ 27 := by
  unfold cnV
  split
  · have := Nat.mod_lt (kv (20 + i)) (show 0 < 16777216 by decide); omega
  · omega
def lps (k : Nat) : List Nat := (List.range k).map (fun j => 119 + j)
theorem lps_len (k : Nat) : (lps k).length = k := by unfold lps; rw [List.length_map, List.length_range]
theorem lps_S (k : Nat) : lps k ++ [119 + k] = lps (k + 1) := by unfold lps; rw [List.range_succ, List.map_append]; rfl
theorem lps_get {k j : Nat} (h : j < k) : (lps k).getD j 0 = 119 + j := by
  unfold lps
  rw [List.getD_eq_getElem?_getD, List.getElem?_map, List.getElem?_range h]
  rfl
/-- what 'said' says: its text, the next place -/
def sdX (cn : Nat → Nat) (n v a fu : Nat) (w : Bool) : List Nat × Nat :=
  if v % 4 = 0 then ([98], a) else if v % 4 < 3 ∨ n < 2 then ([105], a) else (40 :: (txt fu w 0 (mkT cn (n - 2) 0 a).1 ++ [41]), (mkT cn (n - 2) 0 a).2)
theorem mk_send {cn : Nat → Nat} {n k a f : Nat} {w : Bool} (hv : cn a % 9 = 1 ∨ cn a % 9 = 2) : (mkT cn (n + 1) k a).2 = (mkT cn n k (sdX cn (n + 1) (cn a / 16) (a + 1) f (!w)).2).2 ∧ txt (f + 1) w k (mkT cn (n + 1) k a).1 = 33 :: ((sdX cn (n + 1) (cn a / 16) (a + 1) f (!w)).1 ++ 46 :: txt f w k (mkT cn n k (sdX cn (n + 1) (cn a / 16) (a + 1) f (!w)).2).1) := by
  rw [mk_S]
  unfold mkS sdX
  dsimp only
  rw [if_neg (show ¬ cn a % 9 = 0 by omega), if_pos (show cn a % 9 = 1 ∨ cn a % 9 = 2 ∨ cn a % 9 = 3 ∨ cn a % 9 = 4 by omega), if_pos hv]
  by_cases h0 : cn a / 16 % 4 = 0
  · simp only [if_pos h0]; exact ⟨trivial, rfl⟩
  · simp only [if_neg h0]
    by_cases h1 : cn a / 16 % 4 < 3 ∨ n = 0
    · simp only [if_pos h1, if_pos (show cn a / 16 % 4 < 3 ∨ n + 1 < 2 by omega)]; exact ⟨trivial, rfl⟩
    · simp only [if_neg h1, if_neg (show ¬ (cn a / 16 % 4 < 3 ∨ n + 1 < 2) by omega)]
      cases n with
      | zero => exact absurd (Or.inr rfl) h1
      | succ m =>
        refine ⟨rfl, ?_⟩
        rw [txt_4 rfl]
        show _ = 33 :: ((40 :: (txt f (!w) 0 (mkT cn m 0 (a + 1)).1 ++ [41])) ++ 46 :: _)
        simp only [List.cons_append, List.append_assoc, List.nil_append]
        rfl
theorem mk_take {cn : Nat → Nat} {n k a f : Nat} {w : Bool} (hv : cn a % 9 = 3 ∨ cn a % 9 = 4) : (mkT cn (n + 1) k a).2 = (mkT cn n k (sdX cn (n + 1) (cn a / 16) (a + 1) f w).2).2 ∧ txt (f + 1) w k (mkT cn (n + 1) k a).1 = 63 :: ((sdX cn (n + 1) (cn a / 16) (a + 1) f w).1 ++ 46 :: txt f w k (mkT cn n k (sdX cn (n + 1) (cn a / 16) (a + 1) f w).2).1) := by
  rw [mk_S]
  unfold mkS sdX
  dsimp only
  rw [if_neg (show ¬ cn a % 9 = 0 by omega), if_pos (show cn a % 9 = 1 ∨ cn a % 9 = 2 ∨ cn a % 9 = 3 ∨ cn a % 9 = 4 by omega), if_neg (show ¬ (cn a % 9 = 1 ∨ cn a % 9 = 2) by omega)]
  by_cases h0 : cn a / 16 % 4 = 0
  · simp only [if_pos h0]; exact ⟨trivial, rfl⟩
  · simp only [if_neg h0]
    by_cases h1 : cn a / 16 % 4 < 3 ∨ n = 0
    · simp only [if_pos h1, if_pos (show cn a / 16 % 4 < 3 ∨ n + 1 < 2 by omega)]; exact ⟨trivial, rfl⟩
    · simp only [if_neg h1, if_neg (show ¬ (cn a / 16 % 4 < 3 ∨ n + 1 < 2) by omega)]
      cases n with
      | zero => exact absurd (Or.inr rfl) h1
      | succ m =>
        refine ⟨rfl, ?_⟩
        rw [txt_5 rfl]
        show _ = 63 :: ((40 :: (txt f w 0 (mkT cn m 0 (a + 1)).1 ++ [41])) ++ 46 :: _)
        simp only [List.cons_append, List.append_assoc, List.nil_append]
        rfl
theorem mk_end {cn : Nat → Nat} {n k a f : Nat} {w : Bool} (hv : cn a % 9 = 0) : (mkT cn (n + 1) k a).2 = a + 1 ∧ txt (f + 1) w k (mkT cn (n + 1) k a).1 = [48] := by
  rw [mk_S]; unfold mkS; dsimp only; rw [if_pos hv]; exact ⟨rfl, rfl⟩
theorem mk_ch {cn : Nat → Nat} {n k a f : Nat} {w : Bool} (hv : cn a % 9 = 5) : (mkT cn (n + 1) k a).2 = (mkT cn n k (mkT cn n k (a + 1)).2).2 ∧ txt (f + 1) w k (mkT cn (n + 1) k a).1 = 43 :: 123 :: 97 :: 58 :: (txt f w k (mkT cn n k (a + 1)).1 ++ 44 :: 98 :: 58 :: (txt f w k (mkT cn n k (mkT cn n k (a + 1)).2).1 ++ (if w then [44, 99, 58, 48, 125] else [125]))) := by
  rw [mk_S]; unfold mkS; dsimp only
  rw [if_neg (show ¬ cn a % 9 = 0 by omega), if_neg (show ¬ (cn a % 9 = 1 ∨ cn a % 9 = 2 ∨ cn a % 9 = 3 ∨ cn a % 9 = 4) by omega), if_pos hv]
  exact ⟨rfl, rfl⟩
theorem mk_of {cn : Nat → Nat} {n k a f : Nat} {w : Bool} (hv : cn a % 9 = 6) : (mkT cn (n + 1) k a).2 = (mkT cn n k (mkT cn n k (a + 1)).2).2 ∧ txt (f + 1) w k (mkT cn (n + 1) k a).1 = 38 :: 123 :: 97 :: 58 :: (txt f w k (mkT cn n k (a + 1)).1 ++ 44 :: 98 :: 58 :: (txt f w k (mkT cn n k (mkT cn n k (a + 1)).2).1 ++ (if w then [125] else [44, 99, 58, 48, 125]))) := by
  rw [mk_S]; unfold mkS; dsimp only
  rw [if_neg (show ¬ cn a % 9 = 0 by omega), if_neg (show ¬ (cn a % 9 = 1 ∨ cn a % 9 = 2 ∨ cn a % 9 = 3 ∨ cn a % 9 = 4) by omega), if_neg (show ¬ cn a % 9 = 5 by omega), if_pos hv]
  exact ⟨rfl, rfl⟩
theorem mk_lp {cn : Nat → Nat} {n k a f : Nat} {w : Bool} (hv : cn a % 9 = 7) : (mkT cn (n + 1) k a).2 = (mkT cn n (k + 1) (a + 1)).2 ∧ txt (f + 1) w k (mkT cn (n + 1) k a).1 = 42 :: (119 + k) :: 46 :: (if cn a / 16 % 2 = 0 then 33 else 63) :: (if cn a / 16 % 2 = 0 then 105 else 98) :: 46 :: txt f w (k + 1) (mkT cn n (k + 1) (a + 1)).1 := by
  rw [mk_S]; unfold mkS; dsimp only
  rw [if_neg (show ¬ cn a % 9 = 0 by omega), if_neg (show ¬ (cn a % 9 = 1 ∨ cn a % 9 = 2 ∨ cn a % 9 = 3 ∨ cn a % 9 = 4) by omega), if_neg (show ¬ cn a % 9 = 5 by omega), if_neg (show ¬ cn a % 9 = 6 by omega), if_pos hv]
  exact ⟨rfl, rfl⟩
theorem mk_ag {cn : Nat → Nat} {n k a f : Nat} {w : Bool} (hv : cn a % 9 = 8) (hk : 0 < k) : (mkT cn (n + 1) k a).2 = a + 1 ∧ txt (f + 1) w k (mkT cn (n + 1) k a).1 = [119 + cn a / 16 % k] := by
  rw [mk_S]; unfold mkS; dsimp only
  rw [if_neg (show ¬ cn a % 9 = 0 by omega), if_neg (show ¬ (cn a % 9 = 1 ∨ cn a % 9 = 2 ∨ cn a % 9 = 3 ∨ cn a % 9 = 4) by omega), if_neg (show ¬ cn a % 9 = 5 by omega), if_neg (show ¬ cn a % 9 = 6 by omega), if_neg (show ¬ cn a % 9 = 7 by omega), if_pos hk]
  exact ⟨rfl, rfl⟩
theorem mk_i0 {cn : Nat → Nat} {n k a f : Nat} {w : Bool} (hv : cn a % 9 = 8) (hk : ¬ 0 < k) : (mkT cn (n + 1) k a).2 = a + 1 ∧ txt (f + 1) w k (mkT cn (n + 1) k a).1 = [33, 105, 46, 48] := by
  rw [mk_S]; unfold mkS; dsimp only
  rw [if_neg (show ¬ cn a % 9 = 0 by omega), if_neg (show ¬ (cn a % 9 = 1 ∨ cn a % 9 = 2 ∨ cn a % 9 = 3 ∨ cn a % 9 = 4) by omega), if_neg (show ¬ cn a % 9 = 5 by omega), if_neg (show ¬ cn a % 9 = 6 by omega), if_neg (show ¬ cn a % 9 = 7 by omega), if_neg hk]
  cases f <;> exact ⟨rfl, rfl⟩
theorem mk_0a {cn : Nat → Nat} {k a f : Nat} {w : Bool} (hk : 0 < k) (hv : cn a % 2 = 1) : (mkT cn 0 k a).2 = a + 1 ∧ txt f w k (mkT cn 0 k a).1 = [119 + cn a / 2 % k] := by
  unfold mkT; rw [if_pos ⟨hk, hv⟩]
  cases f <;> exact ⟨rfl, rfl⟩
theorem mk_0b {cn : Nat → Nat} {k a f : Nat} {w : Bool} (h : ¬ (0 < k ∧ cn a % 2 = 1)) : (mkT cn 0 k a).2 = a + 1 ∧ txt f w k (mkT cn 0 k a).1 = [48] := by
  unfold mkT; rw [if_neg h]
  cases f <;> exact ⟨rfl, rfl⟩
theorem SbA.born {z : Nat → ClassId} {h : Nat → Option va_E} {b v : Nat} (hb : h b = some (.inr (1, [.ref v, .int 0, .int 0, .int 0]))) (hv : h v = some (.inl (z 0, 16, .inl (fun _ => 0)))) : SbA z h b v [] := ⟨0, 16, fun _ => 0, hb, hv, Nat.zero_le _, Nat.le_of_ble_eq_true rfl, fun j hj => absurd hj (Nat.not_lt_zero j), fun _ => rfl⟩
