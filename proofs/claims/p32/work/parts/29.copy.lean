theorem fits_int {cA : ClassId} {n i : Nat} {f : Nat → Int32} {v : Value} (hv : (vp_cell cA (n, .inl f)).slots[i]? = some v) : fits .int v = true := by
  have h2 : (arrV cA n (fun j => Value.int (f j))).slots[i]? = some v := hv
  by_cases hi : i < n
  · rw [arrV_read _ _ hi] at h2
    cases h2; rfl
  · rw [Array.getElem?_eq_none (by rw [arrV_size]; omega)] at h2
    cases h2
theorem min_nI {n m : Nat} (h : n ≤ m) (hm : m < 2 ^ 31) : (if nI n < nI m then nI n else nI m) = nI n := by
  by_cases e : n = m
  · subst e; split <;> rfl
  · rw [if_pos (nI_lt (by omega) hm)]
theorem cpy0 {f : Nat → Int32} {n j : Nat} (hj : j < n) : va_cpy f (fun _ => 0) 0 0 n j = f j := by
  unfold va_cpy
  rw [if_pos ⟨by omega, by omega⟩]
  congr 1; omega
abbrev rmJ7_copyOf_59c91 : Room := { frames := 1, cells := 1, slots := 360, locals := 40 }
set_option maxRecDepth 100000 in
set_option maxHeartbeats 4000000 in
theorem c_J7_copyOf_59c91 (l : Launch) (D : va_G) (z : Nat → ClassId) (B : Heap) (lo hi : Nat) (h : Nat → Option va_E) (a n cap : Nat) (f : Nat → Int32) (hf : h a = some (.inl (z 1, cap, .inl f))) (hn : n ≤ cap) (hcap : cap ≤ 360) : Met l yJ7_copyOf_59c91 wsJ7_copyOf_59c91 rmJ7_copyOf_59c91 (KP D vwCl B lo hi h (ty6 z) [.ref a, .int (nI n)]) (KQq D vwCl B lo (ty6 z) (fun r hi' h' => hi' = hi + 1 ∧ (∀ q, q ≠ hi → h' q = h q) ∧ r = some hi ∧ ∃ f', h' hi = some (.inl (z 1, n, .inl f')) ∧ ∀ j, j < n → f' j = f j)) 1 360 (fun q => lo ≤ q) := by
  refine ax_met (by decide) rfl (Nat.le_of_ble_eq_true rfl) (L0 := [(0, .ref a), (1, .int (nI n))]) rfl ?_
  intro p e s m args below meth c hC hr hlocks hnm hargs
  refine ax_tell hf (fun ta_0 => ?_)
  refine ax_iload_n hC 1 dJ7_copyOf_59c91_0 rfl rfl ?_
  refine ax_aload_n hC 0 dJ7_copyOf_59c91_1 rfl rfl ?_
  refine ax_alen (v := nI cap) hC hf 1 rfl rfl dJ7_copyOf_59c91_2 ?_
  refine ax_icmp_ne (tgt := 14) hC dJ7_copyOf_59c91_3 (by decide) (fun c1 => ?_) (fun c1 => ?_)
  · refine ax_iload_n hC 1 dJ7_copyOf_59c91_14 rfl rfl ?_
    refine ax_newa (a0 := (n, .inl (fun _ => 0))) (N' := n) hC 1 rfl (by decide +kernel) rfl (fun C q => by cases q) (fun cA => by first | rfl | simp [vp_cell, arrV, defaultValue]) (nI_pos (by omega)) (nI_clamp (by omega)) (show n * 4 ≤ 536870912 by omega) (Nat.le_of_ble_eq_true rfl) (show 0 + n ≤ 360 by omega) dJ7_copyOf_59c91_15 (fun h2 e3 f4 => ?_)
    have e3 : h2 hi = some (.inl (z 1, n, .inl (fun _ => 0))) := e3
    have x5 : h2 a = some (.inl (z 1, cap, .inl (f))) := (f4 _ (by omega)).trans hf
    refine ax_astore_n hC [(2, .ref hi), (0, .ref a), (1, .int (nI n))] dJ7_copyOf_59c91_17 rfl (by decide) rfl ?_
    refine ax_aload_n hC 1 dJ7_copyOf_59c91_18 rfl rfl ?_
    refine ax_iconst (v := 0) hC dJ7_copyOf_59c91_19 (by decide) ?_
    refine ax_aload_n hC 0 dJ7_copyOf_59c91_20 rfl rfl ?_
    refine ax_iconst (v := 0) hC dJ7_copyOf_59c91_21 (by decide) ?_
    refine ax_aload_n hC 1 dJ7_copyOf_59c91_22 rfl rfl ?_
    refine ax_alen (v := nI cap) hC x5 1 rfl rfl dJ7_copyOf_59c91_23 ?_
    refine ax_iload_n hC 2 dJ7_copyOf_59c91_24 rfl rfl ?_
    refine ax_mmin hC (by decide +kernel) (by decide +kernel) (by decide +kernel) (by decide +kernel) (Nat.le_of_ble_eq_true rfl) (Nat.le_of_ble_eq_true rfl) (Nat.le_of_ble_eq_true rfl) (show 0 + n ≤ 360 by omega) dJ7_copyOf_59c91_25 ?_
    refine ax_eqi (y := nI n) (min_nI (by omega) (by omega)) ?_
    refine ax_copyA hC (by decide +kernel) (by decide +kernel) (by decide +kernel) (by decide +kernel) x5 e3 1 1 rfl rfl rfl (by decide) (by decide) (nI_pos (by omega)) (show 0 + (nI n).toNatClampNeg ≤ _ by rw [nI_clamp (by omega)]; omega) (show 0 + (nI n).toNatClampNeg ≤ _ by rw [nI_clamp (by omega)]; omega) (fun i _ => rfl) (Nat.le_of_ble_eq_true rfl) (Nat.le_of_ble_eq_true rfl) dJ7_copyOf_59c91_28 (fun h6 e7 f8 => ?_)
    rw [nI_clamp (by omega)] at e7
    have x9 : h6 a = some (.inl (z 1, cap, .inl (f))) := (f8 _ (by omega)).trans x5
    refine ax_aload_n hC 0 dJ7_copyOf_59c91_31 rfl rfl ?_
    refine ax_widen (k := 1) (n := 360) (by omega) (by omega) ?_
    refine ax_aretA hC (some hi) hr hlocks dJ7_copyOf_59c91_32 ?_
    exact ⟨rfl, fun q hq => ((f8 q (by omega)).trans (f4 q (by omega))), rfl, _, e7, fun j hj => cpy0 hj⟩
  · refine ax_aload_n hC 0 dJ7_copyOf_59c91_6 rfl rfl ?_
    refine ax_clone (ad := "[I") hC (by decide +kernel) (by decide +kernel) (by decide +kernel) (by decide +kernel) (by decide +kernel) hC.2.2.2.1.1 hf 1 rfl (hC.2.1.2 1 _ rfl).2 (fun i v hv => fits_int hv) (Nat.le_of_ble_eq_true rfl) (Nat.le_of_ble_eq_true rfl) (Nat.le_of_ble_eq_true rfl) (show 0 + cap ≤ 360 by omega) dJ7_copyOf_59c91_7 (fun h10 e11 f12 => ?_)
    have e11 : h10 hi = some (.inl (z 1, cap, .inl (f))) := e11
    have x13 : h10 a = some (.inl (z 1, cap, .inl (f))) := (f12 _ (by omega)).trans hf
    refine ax_castA (nm := "[I") hC (by decide +kernel) e11 (hC.2.1.2 1 _ rfl).2 dJ7_copyOf_59c91_10 ?_
    refine ax_widen (k := 1) (n := 360) (by omega) (by omega) ?_
    refine ax_aretA hC (some hi) hr hlocks dJ7_copyOf_59c91_13 ?_
    obtain rfl : n = cap := (nI_eq (by omega) (by omega)).mp c1
    exact ⟨rfl, fun q hq => (f12 q (by omega)), rfl, _, e11, fun j hj => rfl⟩
