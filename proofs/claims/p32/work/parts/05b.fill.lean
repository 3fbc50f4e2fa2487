abbrev rmJ7_fill_d0a16 : Room := { frames := 0, cells := 0, slots := 0, locals := 0 }
set_option maxRecDepth 100000 in
set_option maxHeartbeats 4000000 in
theorem c_J7_fill_d0a16 (l : Launch) (D : va_G) (z : Nat → ClassId) (B : Heap) (lo hi : Nat) (h : Nat → Option va_E) (a n : Nat) (f : Nat → Int64) (v : Int64) (hf : h a = some (.inl (z 2, n, .inr (.inl f)))) (hn : n < 2147483648) : Met l yJ7_fill_d0a16 wsJ7_fill_d0a16 rmJ7_fill_d0a16 (KP D vwCl B lo hi h (ty6 z) [.ref a, .long v]) (KQv D vwCl B lo (ty6 z) (fun hi' h' => hi' = hi ∧ (∀ q, q ≠ a → h' q = h q) ∧ ∃ f', h' a = some (.inl (z 2, n, .inr (.inl f'))) ∧ ∀ j, j < n → f' j = v)) 0 0 (fun q => lo ≤ q) := by
  refine ax_met (by decide) rfl (Nat.le_of_ble_eq_true rfl) (L0 := [(0, .ref a), (1, .long v)]) rfl ?_
  intro p e s m args below meth c hC hr hlocks hnm hargs
  have LP : ∀ (k t : Nat) (hX : Nat → Option va_E) (g : Nat → Int64), t + k = n → (∀ q, q ≠ a → hX q = h q) → hX a = some (.inl (z 2, n, .inr (.inl g))) → (∀ j, j < t → g j = v) → Gx p l e rmJ7_fill_d0a16 s m args below meth c D vwCl B lo 5 (MQ below (KQv D vwCl B lo (ty6 z) (fun hi' h' => hi' = hi ∧ (∀ q, q ≠ a → h' q = h q) ∧ ∃ f', h' a = some (.inl (z 2, n, .inr (.inl f'))) ∧ ∀ j, j < n → f' j = v)) args s 0 0 (fun q => lo ≤ q)) hi hX 0 0 [(3, .int (nI t)), (4, .int (nI n)), (0, .ref a), (1, .long v)] 6 [] := by
    intro k
    induction k with
    | zero =>
      intro t hX g htk hfr hg hall
      refine ax_iload_n hC 0 dJ7_fill_d0a16_6 rfl rfl ?_
      refine ax_iload hC 1 dJ7_fill_d0a16_7 rfl ?_
      refine ax_icmp_ge (tgt := 22) hC dJ7_fill_d0a16_9 (by decide) (fun c1001 => ?_) (fun c1001 => ?_)
      · refine ax_vret hC hr hlocks dJ7_fill_d0a16_22 ?_
        exact ⟨rfl, hfr, g, hg, fun j hj => hall j (by omega)⟩
      · exact absurd (nI_le (by omega) (by omega)) c1001
    | succ k ih =>
      intro t hX g htk hfr hg hall
      refine ax_iload_n hC 0 dJ7_fill_d0a16_6 rfl rfl ?_
      refine ax_iload hC 1 dJ7_fill_d0a16_7 rfl ?_
      refine ax_icmp_ge (tgt := 22) hC dJ7_fill_d0a16_9 (by decide) (fun c2001 => ?_) (fun c2001 => ?_)
      · exact absurd c2001 (nI_ge (by omega) (by omega))
      · refine ax_aload_n hC 2 dJ7_fill_d0a16_12 rfl rfl ?_
        refine ax_iload_n hC 0 dJ7_fill_d0a16_13 rfl rfl ?_
        refine ax_lload_n hC 3 dJ7_fill_d0a16_14 rfl rfl ?_
        have b2002 : vp_in (nI t) n := vp_in_nI (by omega) (by omega)
        refine ax_last hC hg 2 rfl b2002 dJ7_fill_d0a16_15 (fun h2003 e2004 f2005 => ?_)
        rw [nI_clamp (by omega)] at e2004
        refine ax_iinc (v := (nI t) + 1) hC 0 [(3, .int ((nI t) + 1)), (4, .int (nI n)), (0, .ref a), (1, .long v)] dJ7_fill_d0a16_16 rfl rfl (by decide) rfl ?_
        refine ax_goto (tgt := 6) hC dJ7_fill_d0a16_19 (by decide) ?_
        refine ax_locals [0, 1, 2, 3] (L' := [(3, .int ((nI t) + 1)), (4, .int (nI n)), (0, .ref a), (1, .long v)]) rfl ?_
        rw [show (nI t + 1) = nI (t + 1) from nI_1 t]
        refine ih (t + 1) h2003 _ (by omega) (fun q hq => (f2005 q hq).trans (hfr q hq)) e2004 (fun j hj => ?_)
        by_cases hjt : j = t
        · subst hjt; simp [vp_updL]
        · simp only [vp_updL, if_neg hjt]; exact hall j (by omega)
  refine ax_iconst (v := 0) hC dJ7_fill_d0a16_0 (by decide) ?_
  refine ax_istore_n hC [(3, .int 0), (0, .ref a), (1, .long v)] dJ7_fill_d0a16_1 rfl (by decide) rfl ?_
  refine ax_aload_n hC 1 dJ7_fill_d0a16_2 rfl rfl ?_
  refine ax_alen (v := nI n) hC hf 2 rfl rfl dJ7_fill_d0a16_3 ?_
  refine ax_istore hC [(4, .int (nI n)), (3, .int 0), (0, .ref a), (1, .long v)] dJ7_fill_d0a16_4 (by decide) rfl ?_
  refine ax_locals [1, 0, 2, 3] (L' := [(3, .int 0), (4, .int (nI n)), (0, .ref a), (1, .long v)]) rfl ?_
  exact LP n 0 h f (by omega) (fun _ _ => rfl) hf (fun j hj => absurd hj (by omega))

abbrev rmJ7_fill_53178 : Room := { frames := 0, cells := 0, slots := 0, locals := 0 }
set_option maxRecDepth 100000 in
set_option maxHeartbeats 4000000 in
theorem c_J7_fill_53178 (l : Launch) (D : va_G) (z : Nat → ClassId) (B : Heap) (lo hi : Nat) (h : Nat → Option va_E) (a n : Nat) (f : Nat → Int32) (v : Int32) (hf : h a = some (.inl (z 1, n, .inl f))) (hn : n < 2147483648) : Met l yJ7_fill_53178 wsJ7_fill_53178 rmJ7_fill_53178 (KP D vwCl B lo hi h (ty6 z) [.ref a, .int v]) (KQv D vwCl B lo (ty6 z) (fun hi' h' => hi' = hi ∧ (∀ q, q ≠ a → h' q = h q) ∧ ∃ f', h' a = some (.inl (z 1, n, .inl f')) ∧ ∀ j, j < n → f' j = v)) 0 0 (fun q => lo ≤ q) := by
  refine ax_met (by decide) rfl (Nat.le_of_ble_eq_true rfl) (L0 := [(0, .ref a), (1, .int v)]) rfl ?_
  intro p e s m args below meth c hC hr hlocks hnm hargs
  have LP : ∀ (k t : Nat) (hX : Nat → Option va_E) (g : Nat → Int32), t + k = n → (∀ q, q ≠ a → hX q = h q) → hX a = some (.inl (z 1, n, .inl g)) → (∀ j, j < t → g j = v) → Gx p l e rmJ7_fill_53178 s m args below meth c D vwCl B lo 4 (MQ below (KQv D vwCl B lo (ty6 z) (fun hi' h' => hi' = hi ∧ (∀ q, q ≠ a → h' q = h q) ∧ ∃ f', h' a = some (.inl (z 1, n, .inl f')) ∧ ∀ j, j < n → f' j = v)) args s 0 0 (fun q => lo ≤ q)) hi hX 0 0 [(2, .int (nI t)), (3, .int (nI n)), (0, .ref a), (1, .int v)] 5 [] := by
    intro k
    induction k with
    | zero =>
      intro t hX g htk hfr hg hall
      refine ax_iload_n hC 0 dJ7_fill_53178_5 rfl rfl ?_
      refine ax_iload_n hC 1 dJ7_fill_53178_6 rfl rfl ?_
      refine ax_icmp_ge (tgt := 20) hC dJ7_fill_53178_7 (by decide) (fun c1001 => ?_) (fun c1001 => ?_)
      · refine ax_vret hC hr hlocks dJ7_fill_53178_20 ?_
        exact ⟨rfl, hfr, g, hg, fun j hj => hall j (by omega)⟩
      · exact absurd (nI_le (by omega) (by omega)) c1001
    | succ k ih =>
      intro t hX g htk hfr hg hall
      refine ax_iload_n hC 0 dJ7_fill_53178_5 rfl rfl ?_
      refine ax_iload_n hC 1 dJ7_fill_53178_6 rfl rfl ?_
      refine ax_icmp_ge (tgt := 20) hC dJ7_fill_53178_7 (by decide) (fun c2001 => ?_) (fun c2001 => ?_)
      · exact absurd c2001 (nI_ge (by omega) (by omega))
      · refine ax_aload_n hC 2 dJ7_fill_53178_10 rfl rfl ?_
        refine ax_iload_n hC 0 dJ7_fill_53178_11 rfl rfl ?_
        refine ax_iload_n hC 3 dJ7_fill_53178_12 rfl rfl ?_
        have b2002 : vp_in (nI t) n := vp_in_nI (by omega) (by omega)
        refine ax_iast hC hg 1 rfl b2002 dJ7_fill_53178_13 (fun h2003 e2004 f2005 => ?_)
        rw [nI_clamp (by omega)] at e2004
        refine ax_iinc (v := (nI t) + 1) hC 0 [(2, .int ((nI t) + 1)), (3, .int (nI n)), (0, .ref a), (1, .int v)] dJ7_fill_53178_14 rfl rfl (by decide) rfl ?_
        refine ax_goto (tgt := 5) hC dJ7_fill_53178_17 (by decide) ?_
        refine ax_locals [0, 1, 2, 3] (L' := [(2, .int ((nI t) + 1)), (3, .int (nI n)), (0, .ref a), (1, .int v)]) rfl ?_
        rw [show (nI t + 1) = nI (t + 1) from nI_1 t]
        refine ih (t + 1) h2003 _ (by omega) (fun q hq => (f2005 q hq).trans (hfr q hq)) e2004 (fun j hj => ?_)
        by_cases hjt : j = t
        · subst hjt; simp [upd]
        · simp only [upd, if_neg hjt]; exact hall j (by omega)
  refine ax_iconst (v := 0) hC dJ7_fill_53178_0 (by decide) ?_
  refine ax_istore_n hC [(2, .int 0), (0, .ref a), (1, .int v)] dJ7_fill_53178_1 rfl (by decide) rfl ?_
  refine ax_aload_n hC 1 dJ7_fill_53178_2 rfl rfl ?_
  refine ax_alen (v := nI n) hC hf 1 rfl rfl dJ7_fill_53178_3 ?_
  refine ax_istore_n hC [(3, .int (nI n)), (2, .int 0), (0, .ref a), (1, .int v)] dJ7_fill_53178_4 rfl (by decide) rfl ?_
  refine ax_locals [1, 0, 2, 3] (L' := [(2, .int 0), (3, .int (nI n)), (0, .ref a), (1, .int v)]) rfl ?_
  exact LP n 0 h f (by omega) (fun _ _ => rfl) hf (fun j hj => absurd hj (by omega))
