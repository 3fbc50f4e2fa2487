abbrev rmL_said_10 : Room := { frames := 6, cells := 60, slots := 12000, locals := 153 }
set_option maxRecDepth 100000 in
set_option maxHeartbeats 4000000 in
theorem c_L_said_10 (l : Launch) (D : va_G) (z : Nat → ClassId) (B : Heap) (lo hi : Nat) (h : Nat → Option va_E) (kr kv : Nat → Nat) (aa pos vv fu : Nat) (g0 : Nat → Int32) (hat : h aa = some (.inl (z 1, 1, .inl g0))) (hg : g0 0 = nI pos) (hp : pos ≤ 146) (hv : vv ≤ 16777216) (hf : 0 ≤ fu) : Met l yL_said wsL_said rmL_said_10 (KPs D vwCl B lo hi h kr kv (ty6 z) [.ref (kr 19), .ref aa, .int 1, .int 0, .int (nI vv)]) (KQq D vwCl B lo (ty6 z) (fun r hi' h' => ∃ sa va : Nat, r = some sa ∧ StV kr kv h' sa va ∧ ByA z kv h' va ((sdX (cnV kv) 1 vv pos fu false).1) ∧ (∃ g : Nat → Int32, h' aa = some (.inl (z 1, 1, .inl g)) ∧ g 0 = nI ((sdX (cnV kv) 1 vv pos fu false).2)) ∧ sa ≠ aa ∧ va ≠ aa ∧ sa < hi' ∧ va < hi' ∧ ((sdX (cnV kv) 1 vv pos fu false).1).length ≤ 1 ∧ ((sdX (cnV kv) 1 vv pos fu false).2) ≤ pos + 1 ∧ hi ≤ hi' ∧ (sa < lo ∨ hi ≤ sa) ∧ (va < lo ∨ hi ≤ va) ∧ ∀ q, q < hi → q ≠ aa → h' q = h q)) 60 12000 (fun q => lo ≤ q) := by
  refine ax_metS (by decide) rfl (Nat.le_of_ble_eq_true rfl) (L0 := [(0, .ref (kr 19)), (1, .ref aa), (2, .int 1), (3, .int 0), (4, .int (nI vv))]) rfl ?_
  intro p e s m args below meth c hC hX hr hlocks hnm hargs
  refine ax_tell hat (fun ta_0 => ?_)
  refine ax_iload hC 4 dL_said_0 rfl ?_
  refine ax_iconst (v := 3) hC dL_said_2 (by decide) ?_
  refine ax_iand hC dL_said_3 ?_
  refine ax_eqi (y := nI (vv % 4)) ((nI_mask _).2.2) ?_
  refine ax_if_ne (tgt := 12) hC dL_said_4 (by decide) (fun c1 => ?_) (fun c1 => ?_)
  · have k4 : ¬ vv % 4 = 0 := fun e => c1 (by rw [e]; rfl)
    refine ax_iload hC 4 dL_said_12 rfl ?_
    refine ax_iconst (v := 3) hC dL_said_14 (by decide) ?_
    refine ax_iand hC dL_said_15 ?_
    refine ax_eqi (y := nI (vv % 4)) ((nI_mask _).2.2) ?_
    refine ax_iconst (v := 3) hC dL_said_16 (by decide) ?_
    refine ax_icmp_lt (tgt := 25) hC dL_said_17 (by decide) (fun c2 => ?_) (fun c2 => ?_)
    · have k5 : vv % 4 < 3 := (nI_ltI (b := 3) (by omega) (by decide)).mp c2
      refine ax_ldcS hC hX 16 (by decide) rfl dL_said_25 ?_
      refine ax_goto (tgt := 64) hC dL_said_27 (by decide) ?_
      refine ax_widen (k := 60) (n := 12000) (by omega) (by omega) ?_
      refine ax_aret hC (some (kr 16)) hr hlocks dL_said_64 ?_
      have sv1 : StV kr kv h (kr 16) (kv 16) := Or.inr ⟨16, by decide, rfl, rfl⟩
      have by2 : ByA z kv h (kv 16) (kT 16) := Or.inr ⟨16, by decide, rfl, rfl⟩
      have lt_16 := hX.lt (i := 16) (by decide)
      have lk_16 : (kT 16).length = 1 := by decide
      have ex3 : sdX (cnV kv) 1 vv pos fu false = (kT 16, pos) := by unfold sdX; rw [if_neg k4, if_pos (by omega)]; rfl
      rw [ex3]
      dsimp only
      exact ⟨_, _, rfl, sv1, by2, ⟨_, hat, hg⟩, by omega, by omega, by omega, by omega, by omega, by omega, by omega, by omega, by omega, fun q hq hq2 => rfl⟩
    · have k5 : ¬ vv % 4 < 3 := fun e => c2 (nI_lt (b := 3) e (by decide))
      refine ax_iload_n hC 2 dL_said_20 rfl rfl ?_
      refine ax_iconst (v := 2) hC dL_said_21 (by decide) ?_
      refine ax_icmp_ge (tgt := 30) hC dL_said_22 (by decide) (fun c4 => ?_) (fun c4 => ?_)
      · exact absurd c4 (by decide)
      · refine ax_ldcS hC hX 16 (by decide) rfl dL_said_25 ?_
        refine ax_goto (tgt := 64) hC dL_said_27 (by decide) ?_
        refine ax_widen (k := 60) (n := 12000) (by omega) (by omega) ?_
        refine ax_aret hC (some (kr 16)) hr hlocks dL_said_64 ?_
        have sv5 : StV kr kv h (kr 16) (kv 16) := Or.inr ⟨16, by decide, rfl, rfl⟩
        have by6 : ByA z kv h (kv 16) (kT 16) := Or.inr ⟨16, by decide, rfl, rfl⟩
        have lt_16 := hX.lt (i := 16) (by decide)
        have lk_16 : (kT 16).length = 1 := by decide
        have ex7 : sdX (cnV kv) 1 vv pos fu false = (kT 16, pos) := by unfold sdX; rw [if_neg k4, if_pos (by omega)]; rfl
        rw [ex7]
        dsimp only
        exact ⟨_, _, rfl, sv5, by6, ⟨_, hat, hg⟩, by omega, by omega, by omega, by omega, by omega, by omega, by omega, by omega, by omega, fun q hq hq2 => rfl⟩
  · have k4 : vv % 4 = 0 := (nI_eq (b := 0) (by omega) (by decide)).mp c1
    refine ax_ldcS hC hX 15 (by decide) rfl dL_said_7 ?_
    refine ax_goto (tgt := 64) hC dL_said_9 (by decide) ?_
    refine ax_widen (k := 60) (n := 12000) (by omega) (by omega) ?_
    refine ax_aret hC (some (kr 15)) hr hlocks dL_said_64 ?_
    have sv8 : StV kr kv h (kr 15) (kv 15) := Or.inr ⟨15, by decide, rfl, rfl⟩
    have by9 : ByA z kv h (kv 15) (kT 15) := Or.inr ⟨15, by decide, rfl, rfl⟩
    have lt_15 := hX.lt (i := 15) (by decide)
    have lk_15 : (kT 15).length = 1 := by decide
    have ex10 : sdX (cnV kv) 1 vv pos fu false = (kT 15, pos) := by unfold sdX; rw [if_pos k4]; rfl
    rw [ex10]
    dsimp only
    exact ⟨_, _, rfl, sv8, by9, ⟨_, hat, hg⟩, by omega, by omega, by omega, by omega, by omega, by omega, by omega, by omega, by omega, fun q hq hq2 => rfl⟩

abbrev rmL_said_11 : Room := { frames := 6, cells := 60, slots := 12000, locals := 153 }
set_option maxRecDepth 100000 in
set_option maxHeartbeats 4000000 in
theorem c_L_said_11 (l : Launch) (D : va_G) (z : Nat → ClassId) (B : Heap) (lo hi : Nat) (h : Nat → Option va_E) (kr kv : Nat → Nat) (aa pos vv fu : Nat) (g0 : Nat → Int32) (hat : h aa = some (.inl (z 1, 1, .inl g0))) (hg : g0 0 = nI pos) (hp : pos ≤ 146) (hv : vv ≤ 16777216) (hf : 0 ≤ fu) : Met l yL_said wsL_said rmL_said_11 (KPs D vwCl B lo hi h kr kv (ty6 z) [.ref (kr 19), .ref aa, .int 1, .int 1, .int (nI vv)]) (KQq D vwCl B lo (ty6 z) (fun r hi' h' => ∃ sa va : Nat, r = some sa ∧ StV kr kv h' sa va ∧ ByA z kv h' va ((sdX (cnV kv) 1 vv pos fu true).1) ∧ (∃ g : Nat → Int32, h' aa = some (.inl (z 1, 1, .inl g)) ∧ g 0 = nI ((sdX (cnV kv) 1 vv pos fu true).2)) ∧ sa ≠ aa ∧ va ≠ aa ∧ sa < hi' ∧ va < hi' ∧ ((sdX (cnV kv) 1 vv pos fu true).1).length ≤ 1 ∧ ((sdX (cnV kv) 1 vv pos fu true).2) ≤ pos + 1 ∧ hi ≤ hi' ∧ (sa < lo ∨ hi ≤ sa) ∧ (va < lo ∨ hi ≤ va) ∧ ∀ q, q < hi → q ≠ aa → h' q = h q)) 60 12000 (fun q => lo ≤ q) := by
  refine ax_metS (by decide) rfl (Nat.le_of_ble_eq_true rfl) (L0 := [(0, .ref (kr 19)), (1, .ref aa), (2, .int 1), (3, .int 1), (4, .int (nI vv))]) rfl ?_
  intro p e s m args below meth c hC hX hr hlocks hnm hargs
  refine ax_tell hat (fun ta_0 => ?_)
  refine ax_iload hC 4 dL_said_0 rfl ?_
  refine ax_iconst (v := 3) hC dL_said_2 (by decide) ?_
  refine ax_iand hC dL_said_3 ?_
  refine ax_eqi (y := nI (vv % 4)) ((nI_mask _).2.2) ?_
  refine ax_if_ne (tgt := 12) hC dL_said_4 (by decide) (fun c1 => ?_) (fun c1 => ?_)
  · have k4 : ¬ vv % 4 = 0 := fun e => c1 (by rw [e]; rfl)
    refine ax_iload hC 4 dL_said_12 rfl ?_
    refine ax_iconst (v := 3) hC dL_said_14 (by decide) ?_
    refine ax_iand hC dL_said_15 ?_
    refine ax_eqi (y := nI (vv % 4)) ((nI_mask _).2.2) ?_
    refine ax_iconst (v := 3) hC dL_said_16 (by decide) ?_
    refine ax_icmp_lt (tgt := 25) hC dL_said_17 (by decide) (fun c2 => ?_) (fun c2 => ?_)
    · have k5 : vv % 4 < 3 := (nI_ltI (b := 3) (by omega) (by decide)).mp c2
      refine ax_ldcS hC hX 16 (by decide) rfl dL_said_25 ?_
      refine ax_goto (tgt := 64) hC dL_said_27 (by decide) ?_
      refine ax_widen (k := 60) (n := 12000) (by omega) (by omega) ?_
      refine ax_aret hC (some (kr 16)) hr hlocks dL_said_64 ?_
      have sv1 : StV kr kv h (kr 16) (kv 16) := Or.inr ⟨16, by decide, rfl, rfl⟩
      have by2 : ByA z kv h (kv 16) (kT 16) := Or.inr ⟨16, by decide, rfl, rfl⟩
      have lt_16 := hX.lt (i := 16) (by decide)
      have lk_16 : (kT 16).length = 1 := by decide
      have ex3 : sdX (cnV kv) 1 vv pos fu true = (kT 16, pos) := by unfold sdX; rw [if_neg k4, if_pos (by omega)]; rfl
      rw [ex3]
      dsimp only
      exact ⟨_, _, rfl, sv1, by2, ⟨_, hat, hg⟩, by omega, by omega, by omega, by omega, by omega, by omega, by omega, by omega, by omega, fun q hq hq2 => rfl⟩
    · have k5 : ¬ vv % 4 < 3 := fun e => c2 (nI_lt (b := 3) e (by decide))
      refine ax_iload_n hC 2 dL_said_20 rfl rfl ?_
      refine ax_iconst (v := 2) hC dL_said_21 (by decide) ?_
      refine ax_icmp_ge (tgt := 30) hC dL_said_22 (by decide) (fun c4 => ?_) (fun c4 => ?_)
      · exact absurd c4 (by decide)
      · refine ax_ldcS hC hX 16 (by decide) rfl dL_said_25 ?_
        refine ax_goto (tgt := 64) hC dL_said_27 (by decide) ?_
        refine ax_widen (k := 60) (n := 12000) (by omega) (by omega) ?_
        refine ax_aret hC (some (kr 16)) hr hlocks dL_said_64 ?_
        have sv5 : StV kr kv h (kr 16) (kv 16) := Or.inr ⟨16, by decide, rfl, rfl⟩
        have by6 : ByA z kv h (kv 16) (kT 16) := Or.inr ⟨16, by decide, rfl, rfl⟩
        have lt_16 := hX.lt (i := 16) (by decide)
        have lk_16 : (kT 16).length = 1 := by decide
        have ex7 : sdX (cnV kv) 1 vv pos fu true = (kT 16, pos) := by unfold sdX; rw [if_neg k4, if_pos (by omega)]; rfl
        rw [ex7]
        dsimp only
        exact ⟨_, _, rfl, sv5, by6, ⟨_, hat, hg⟩, by omega, by omega, by omega, by omega, by omega, by omega, by omega, by omega, by omega, fun q hq hq2 => rfl⟩
  · have k4 : vv % 4 = 0 := (nI_eq (b := 0) (by omega) (by decide)).mp c1
    refine ax_ldcS hC hX 15 (by decide) rfl dL_said_7 ?_
    refine ax_goto (tgt := 64) hC dL_said_9 (by decide) ?_
    refine ax_widen (k := 60) (n := 12000) (by omega) (by omega) ?_
    refine ax_aret hC (some (kr 15)) hr hlocks dL_said_64 ?_
    have sv8 : StV kr kv h (kr 15) (kv 15) := Or.inr ⟨15, by decide, rfl, rfl⟩
    have by9 : ByA z kv h (kv 15) (kT 15) := Or.inr ⟨15, by decide, rfl, rfl⟩
    have lt_15 := hX.lt (i := 15) (by decide)
    have lk_15 : (kT 15).length = 1 := by decide
    have ex10 : sdX (cnV kv) 1 vv pos fu true = (kT 15, pos) := by unfold sdX; rw [if_pos k4]; rfl
    rw [ex10]
    dsimp only
    exact ⟨_, _, rfl, sv8, by9, ⟨_, hat, hg⟩, by omega, by omega, by omega, by omega, by omega, by omega, by omega, by omega, by omega, fun q hq hq2 => rfl⟩
