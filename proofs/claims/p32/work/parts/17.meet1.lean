abbrev rmJ7_fill_031fb : Room := { frames := 0, cells := 0, slots := 0, locals := 0 }
set_option maxRecDepth 100000 in
set_option maxHeartbeats 4000000 in
theorem c_J7_fill_031fb (l : Launch) (D : va_G) (z : Nat → ClassId) (B : Heap) (lo hi : Nat) (h : Nat → Option va_E) (a n : Nat) (f : Nat → Int32) (v : Int32) (hf : h a = some (.inl (z 0, n, .inl f))) (hn : n < 2147483648) (hv : v.toInt8.toInt32 = v) : Met l yJ7_fill_031fb wsJ7_fill_031fb rmJ7_fill_031fb (KP D vwCl B lo hi h (ty6 z) [.ref a, .int v]) (KQv D vwCl B lo (ty6 z) (fun hi' h' => hi' = hi ∧ (∀ q, q ≠ a → h' q = h q) ∧ ∃ f', h' a = some (.inl (z 0, n, .inl f')) ∧ ∀ j, j < n → f' j = v)) 0 0 (fun q => lo ≤ q) := by
  refine ax_met (by decide) rfl (Nat.le_of_ble_eq_true rfl) (L0 := [(0, .ref a), (1, .int v)]) rfl ?_
  intro p e s m args below meth c hC hr hlocks hnm hargs
  have LP : ∀ (k t : Nat) (hX : Nat → Option va_E) (g : Nat → Int32), t + k = n → (∀ q, q ≠ a → hX q = h q) → hX a = some (.inl (z 0, n, .inl g)) → (∀ j, j < t → g j = v) → Gx p l e rmJ7_fill_031fb s m args below meth c D vwCl B lo 4 (MQ below (KQv D vwCl B lo (ty6 z) (fun hi' h' => hi' = hi ∧ (∀ q, q ≠ a → h' q = h q) ∧ ∃ f', h' a = some (.inl (z 0, n, .inl f')) ∧ ∀ j, j < n → f' j = v)) args s 0 0 (fun q => lo ≤ q)) hi hX 0 0 [(2, .int (nI t)), (3, .int (nI n)), (0, .ref a), (1, .int v)] 5 [] := by
    intro k
    induction k with
    | zero =>
      intro t hX g htk hfr hg hall
      refine ax_iload_n hC 0 dJ7_fill_031fb_5 rfl rfl ?_
      refine ax_iload_n hC 1 dJ7_fill_031fb_6 rfl rfl ?_
      refine ax_icmp_ge (tgt := 20) hC dJ7_fill_031fb_7 (by decide) (fun c1001 => ?_) (fun c1001 => ?_)
      · refine ax_vret hC hr hlocks dJ7_fill_031fb_20 ?_
        exact ⟨rfl, hfr, g, hg, fun j hj => hall j (by omega)⟩
      · exact absurd (nI_le (by omega) (by omega)) c1001
    | succ k ih =>
      intro t hX g htk hfr hg hall
      refine ax_iload_n hC 0 dJ7_fill_031fb_5 rfl rfl ?_
      refine ax_iload_n hC 1 dJ7_fill_031fb_6 rfl rfl ?_
      refine ax_icmp_ge (tgt := 20) hC dJ7_fill_031fb_7 (by decide) (fun c2001 => ?_) (fun c2001 => ?_)
      · exact absurd c2001 (nI_ge (by omega) (by omega))
      · refine ax_aload_n hC 2 dJ7_fill_031fb_10 rfl rfl ?_
        refine ax_iload_n hC 0 dJ7_fill_031fb_11 rfl rfl ?_
        refine ax_iload_n hC 3 dJ7_fill_031fb_12 rfl rfl ?_
        have b2002 : vp_in (nI t) n := vp_in_nI (by omega) (by omega)
        refine ax_bast hC hg 0 rfl b2002 dJ7_fill_031fb_13 (fun h2003 e2004 f2005 => ?_)
        rw [nI_clamp (by omega)] at e2004
        refine ax_iinc (v := (nI t) + 1) hC 0 [(2, .int ((nI t) + 1)), (3, .int (nI n)), (0, .ref a), (1, .int v)] dJ7_fill_031fb_14 rfl rfl (by decide) rfl ?_
        refine ax_goto (tgt := 5) hC dJ7_fill_031fb_17 (by decide) ?_
        refine ax_locals [0, 1, 2, 3] (L' := [(2, .int ((nI t) + 1)), (3, .int (nI n)), (0, .ref a), (1, .int v)]) rfl ?_
        rw [show (nI t + 1) = nI (t + 1) from nI_1 t]
        refine ih (t + 1) h2003 _ (by omega) (fun q hq => (f2005 q hq).trans (hfr q hq)) e2004 (fun j hj => ?_)
        by_cases hjt : j = t
        · subst hjt; simp [upd, vp_nar]; exact hv
        · simp only [upd, if_neg hjt]; exact hall j (by omega)
  refine ax_iconst (v := 0) hC dJ7_fill_031fb_0 (by decide) ?_
  refine ax_istore_n hC [(2, .int 0), (0, .ref a), (1, .int v)] dJ7_fill_031fb_1 rfl (by decide) rfl ?_
  refine ax_aload_n hC 1 dJ7_fill_031fb_2 rfl rfl ?_
  refine ax_alen (v := nI n) hC hf 0 rfl rfl dJ7_fill_031fb_3 ?_
  refine ax_istore_n hC [(3, .int (nI n)), (2, .int 0), (0, .ref a), (1, .int v)] dJ7_fill_031fb_4 rfl (by decide) rfl ?_
  refine ax_locals [1, 0, 2, 3] (L' := [(2, .int 0), (3, .int (nI n)), (0, .ref a), (1, .int v)]) rfl ?_
  exact LP n 0 h f (by omega) (fun _ _ => rfl) hf (fun j hj => absurd hj (by omega))

abbrev rmX4_pack : Room := { frames := 0, cells := 0, slots := 0, locals := 0 }
set_option maxRecDepth 100000 in
set_option maxHeartbeats 4000000 in
theorem c_X4_pack (l : Launch) (D : va_G) (z : Nat → ClassId) (B : Heap) (lo hi : Nat) (h : Nat → Option va_E) (mt cm aF aG : Nat) (nr : Int32) (TF TG : PT) (W : Nat → Nat → Prop) (a b l0 l1 : Nat) (hX : MtX z h mt cm aF aG nr TF TG W a b l0 l1) (ha : a < 64) (hb : b < 64) (hl0 : l0 < 16384) (hl1 : l1 < 16384) : Met l yX4_pack wsX4_pack rmX4_pack (KP D vwCl B lo hi h (ty6 z) [.ref mt]) (KQl D vwCl B lo (ty6 z) (fun r hi' h' => r = Int64.ofNat (pkN a b l0 l1) ∧ hi' = hi ∧ h' = h)) 0 0 (fun q => lo ≤ q) := by
  obtain ⟨fo, most, over, pl, mv, sl, ft, tk, ats, lns, q0, q1, q2, q3, q4, q5, q6, q7, hfo, hov, hk0, hk1, hta, htb, hz0, hz1, hpl, hft⟩ := hX
  refine ax_met (by decide) rfl (Nat.le_of_ble_eq_true rfl) (L0 := [(0, .ref mt)]) rfl ?_
  intro p e s m args below meth c hC hr hlocks hnm hargs
  have iX4 : ∀ w ∈ u_ws RX4 TX4 15, w ∈ wsX4_pack := by decide +kernel
  refine ax_aload_n hC 0 dX4_pack_0 rfl rfl ?_
  refine ax_getf (v := .ref (mt + 7)) hC q0 iX4 rfl 12 (by decide) (by decide +kernel) rfl rfl dX4_pack_1 ?_
  refine ax_iconst (v := 1) hC dX4_pack_4 (by decide) ?_
  have b1 : vp_in 1 2 := vp_in_iff.mpr (by decide)
  refine ax_iald hC q7 1 rfl b1 dX4_pack_5 ?_
  refine ax_eqi (y := nI l1) (hz1) ?_
  refine ax_i2l hC dX4_pack_6 rfl ?_
  refine ax_eql (y := Int64.ofNat l1) (i64n l1 (by omega)) ?_
  refine ax_bipush (v := 14) hC dX4_pack_7 (by decide) ?_
  refine ax_lshl hC dX4_pack_9 rfl ?_
  refine ax_eql (y := Int64.ofNat (l1 * 2 ^ 14)) (i64_shl l1 14 _ (by decide)) ?_
  refine ax_aload_n hC 0 dX4_pack_10 rfl rfl ?_
  refine ax_getf (v := .ref (mt + 7)) hC q0 iX4 rfl 12 (by decide) (by decide +kernel) rfl rfl dX4_pack_11 ?_
  refine ax_iconst (v := 0) hC dX4_pack_14 (by decide) ?_
  have b4 : vp_in 0 2 := vp_in_iff.mpr (by decide)
  refine ax_iald hC q7 1 rfl b4 dX4_pack_15 ?_
  refine ax_eqi (y := nI l0) (hz0) ?_
  refine ax_i2l hC dX4_pack_16 rfl ?_
  refine ax_eql (y := Int64.ofNat l0) (i64n l0 (by omega)) ?_
  refine ax_lor hC dX4_pack_17 ?_
  refine ax_eql (y := Int64.ofNat (l1 * 2 ^ 14 + l0)) (i64_or l1 l0 14 (by omega)) ?_
  refine ax_lstore_n hC [(1, .long (Int64.ofNat (l1 * 2 ^ 14 + l0))), (0, .ref mt)] dX4_pack_18 rfl (by decide) rfl ?_
  refine ax_lload_n hC 0 dX4_pack_19 rfl rfl ?_
  refine ax_bipush (v := 12) hC dX4_pack_20 (by decide) ?_
  refine ax_lshl hC dX4_pack_22 rfl ?_
  refine ax_eql (y := Int64.ofNat ((l1 * 2 ^ 14 + l0) * 2 ^ 12)) (i64_shl _ 12 _ (by decide)) ?_
  refine ax_aload_n hC 1 dX4_pack_23 rfl rfl ?_
  refine ax_getf (v := .ref (mt + 6)) hC q0 iX4 rfl 11 (by decide) (by decide +kernel) rfl rfl dX4_pack_24 ?_
  refine ax_iconst (v := 1) hC dX4_pack_27 (by decide) ?_
  have b7 : vp_in 1 2 := vp_in_iff.mpr (by decide)
  refine ax_iald hC q6 1 rfl b7 dX4_pack_28 ?_
  refine ax_eqi (y := nI b) (htb) ?_
  refine ax_i2l hC dX4_pack_29 rfl ?_
  refine ax_eql (y := Int64.ofNat b) (i64n b (by omega)) ?_
  refine ax_bipush (v := 6) hC dX4_pack_30 (by decide) ?_
  refine ax_lshl hC dX4_pack_32 rfl ?_
  refine ax_eql (y := Int64.ofNat (b * 2 ^ 6)) (i64_shl b 6 _ (by decide)) ?_
  refine ax_lor hC dX4_pack_33 ?_
  refine ax_eql (y := Int64.ofNat (((l1 * 2 ^ 14 + l0) * 2 ^ 6 + b) * 2 ^ 6)) ((i64_or (l1 * 2 ^ 14 + l0) (b * 2 ^ 6) 12 (by omega)).trans (congrArg Int64.ofNat (by omega))) ?_
  refine ax_aload_n hC 1 dX4_pack_34 rfl rfl ?_
  refine ax_getf (v := .ref (mt + 6)) hC q0 iX4 rfl 11 (by decide) (by decide +kernel) rfl rfl dX4_pack_35 ?_
  refine ax_iconst (v := 0) hC dX4_pack_38 (by decide) ?_
  have b10 : vp_in 0 2 := vp_in_iff.mpr (by decide)
  refine ax_iald hC q6 1 rfl b10 dX4_pack_39 ?_
  refine ax_eqi (y := nI a) (hta) ?_
  refine ax_i2l hC dX4_pack_40 rfl ?_
  refine ax_eql (y := Int64.ofNat a) (i64n a (by omega)) ?_
  refine ax_lor hC dX4_pack_41 ?_
  refine ax_eql (y := Int64.ofNat (pkN a b l0 l1)) (i64_or ((l1 * 2 ^ 14 + l0) * 2 ^ 6 + b) a 6 (by omega)) ?_
  refine ax_lret hC hr hlocks dX4_pack_42 ?_
  exact ⟨rfl, rfl, rfl⟩

abbrev rmX4_lying : Room := { frames := 0, cells := 0, slots := 0, locals := 0 }
set_option maxRecDepth 100000 in
set_option maxHeartbeats 4000000 in
theorem c_X4_lying (l : Launch) (D : va_G) (z : Nat → ClassId) (B : Heap) (lo hi : Nat) (h : Nat → Option va_E) (x : Int32)  : Met l yX4_lying wsX4_lying rmX4_lying (KP D vwCl B lo hi h (ty6 z) [.int x]) (KQp D vwCl B lo hi h (ty6 z) (fun r => r = lyf x)) 0 0 (fun q => lo ≤ q) := by
  refine ax_met (by decide) rfl (Nat.le_of_ble_eq_true rfl) (L0 := [(0, .int x)]) rfl ?_
  intro p e s m args below meth c hC hr hlocks hnm hargs
  refine ax_iload_n hC 0 dX4_lying_0 rfl rfl ?_
  refine ax_if_ne (tgt := 8) hC dX4_lying_1 (by decide) (fun c1 => ?_) (fun c1 => ?_)
  · refine ax_iload_n hC 0 dX4_lying_8 rfl rfl ?_
    refine ax_bipush (v := 7) hC dX4_lying_9 (by decide) ?_
    refine ax_ishr hC dX4_lying_11 ?_
    refine ax_if_ne (tgt := 19) hC dX4_lying_12 (by decide) (fun c2 => ?_) (fun c2 => ?_)
    · refine ax_iconst (v := 2) hC dX4_lying_19 (by decide) ?_
      refine ax_iret hC hr hlocks dX4_lying_20 ?_
      refine ⟨?_, rfl, rfl⟩
      rw [lyf, if_neg c1, if_neg c2]
    · refine ax_iconst (v := 1) hC dX4_lying_15 (by decide) ?_
      refine ax_goto (tgt := 20) hC dX4_lying_16 (by decide) ?_
      refine ax_iret hC hr hlocks dX4_lying_20 ?_
      refine ⟨?_, rfl, rfl⟩
      rw [lyf, if_neg c1, if_pos c2]
  · refine ax_iconst (v := 0) hC dX4_lying_4 (by decide) ?_
    refine ax_goto (tgt := 20) hC dX4_lying_5 (by decide) ?_
    refine ax_iret hC hr hlocks dX4_lying_20 ?_
    refine ⟨?_, rfl, rfl⟩
    rw [lyf, if_pos c1]

abbrev rmX4_unpack : Room := { frames := 0, cells := 0, slots := 0, locals := 0 }
set_option maxRecDepth 100000 in
set_option maxHeartbeats 4000000 in
theorem c_X4_unpack (l : Launch) (D : va_G) (z : Nat → ClassId) (B : Heap) (lo hi : Nat) (h : Nat → Option va_E) (mt cm aF aG : Nat) (nr : Int32) (TF TG : PT) (W : Nat → Nat → Prop) (a b l0 l1 : Nat) (a0 b0 m0 m1 : Nat) (hX : MtX z h mt cm aF aG nr TF TG W a0 b0 m0 m1) (ha : a < 64) (hb : b < 64) (hl0 : l0 < 16384) (hl1 : l1 < 16384) : Met l yX4_unpack wsX4_unpack rmX4_unpack (KP D vwCl B lo hi h (ty6 z) [.ref mt, .long (Int64.ofNat (pkN a b l0 l1))]) (KQv D vwCl B lo (ty6 z) (fun hi' h' => hi' = hi ∧ (∀ q, (q < mt ∨ mt + 8 ≤ q) → h' q = h q) ∧ MtX z h' mt cm aF aG nr TF TG W a b l0 l1)) 0 0 (fun q => lo ≤ q) := by
  obtain ⟨fo, most, over, pl, mv, sl, ft, tk, ats, lns, q0, q1, q2, q3, q4, q5, q6, q7, hfo, hov, hk0, hk1, hta, htb, hz0, hz1, hpl, hft⟩ := hX
  refine ax_met (by decide) rfl (Nat.le_of_ble_eq_true rfl) (L0 := [(0, .ref mt), (1, .long (Int64.ofNat (pkN a b l0 l1)))]) rfl ?_
  intro p e s m args below meth c hC hr hlocks hnm hargs
  have iX4 : ∀ w ∈ u_ws RX4 TX4 15, w ∈ wsX4_unpack := by decide +kernel
  refine ax_bipush (v := 63) hC dX4_unpack_0 (by decide) ?_
  refine ax_istore_n hC [(3, .int 63), (0, .ref mt), (1, .long (Int64.ofNat (pkN a b l0 l1)))] dX4_unpack_2 rfl (by decide) rfl ?_
  refine ax_sipush (v := 16383) hC dX4_unpack_3 (by decide) ?_
  refine ax_istore hC [(4, .int 16383), (3, .int 63), (0, .ref mt), (1, .long (Int64.ofNat (pkN a b l0 l1)))] dX4_unpack_6 (by decide) rfl ?_
  refine ax_aload_n hC 2 dX4_unpack_8 rfl rfl ?_
  refine ax_getf (v := .ref (mt + 6)) hC q0 iX4 rfl 11 (by decide) (by decide +kernel) rfl rfl dX4_unpack_9 ?_
  refine ax_iconst (v := 0) hC dX4_unpack_12 (by decide) ?_
  refine ax_lload_n hC 3 dX4_unpack_13 rfl rfl ?_
  refine ax_l2i hC dX4_unpack_14 rfl ?_
  refine ax_eqi (y := nI (pkN a b l0 l1)) (i64_i _) ?_
  refine ax_iload_n hC 1 dX4_unpack_15 rfl rfl ?_
  refine ax_iand hC dX4_unpack_16 ?_
  refine ax_eqi (y := nI a) ((i32_and _ 6).trans (congrArg nI (by unfold pkN; omega))) ?_
  have b2 : vp_in 0 2 := vp_in_iff.mpr (by decide)
  refine ax_iast hC q6 1 rfl b2 dX4_unpack_17 (fun h3 e4 f5 => ?_)
  have x6 : h3 mt = some (.inr (6, [.int (nI fo), .int 0, .int 0, .int (-2), .int most, .ref cm, .ref (mt + 1), .ref (mt + 2), .ref (mt + 3), .ref (mt + 4), .ref (mt + 5), .ref (mt + 6), .ref (mt + 7), .int nr, .int over])) := (f5 _ (by omega)).trans q0
  have x7 : h3 (mt + 1) = some (.inl (z 2, 3000, .inr (.inl (pl)))) := (f5 _ (by omega)).trans q1
  have x8 : h3 (mt + 2) = some (.inl (z 1, 3000, .inl (mv))) := (f5 _ (by omega)).trans q2
  have x9 : h3 (mt + 3) = some (.inl (z 1, 8192, .inl (sl))) := (f5 _ (by omega)).trans q3
  have x10 : h3 (mt + 4) = some (.inl (z 0, 7200, .inl (ft))) := (f5 _ (by omega)).trans q4
  have x11 : h3 (mt + 5) = some (.inl (z 5, 2, .inr (.inr (.inr (.inr (tk)))))) := (f5 _ (by omega)).trans q5
  have x12 : h3 (mt + 7) = some (.inl (z 1, 2, .inl (lns))) := (f5 _ (by omega)).trans q7
  refine ax_aload_n hC 2 dX4_unpack_18 rfl rfl ?_
  refine ax_getf (v := .ref (mt + 6)) hC x6 iX4 rfl 11 (by decide) (by decide +kernel) rfl rfl dX4_unpack_19 ?_
  refine ax_iconst (v := 1) hC dX4_unpack_22 (by decide) ?_
  refine ax_lload_n hC 3 dX4_unpack_23 rfl rfl ?_
  refine ax_bipush (v := 6) hC dX4_unpack_24 (by decide) ?_
  refine ax_lshr hC dX4_unpack_26 rfl ?_
  refine ax_eql (y := Int64.ofNat (pkN a b l0 l1 / 2 ^ 6)) (i64_shr _ 6 _ (by decide) (by unfold pkN; omega)) ?_
  refine ax_l2i hC dX4_unpack_27 rfl ?_
  refine ax_eqi (y := nI (pkN a b l0 l1 / 2 ^ 6)) (i64_i _) ?_
  refine ax_iload_n hC 1 dX4_unpack_28 rfl rfl ?_
  refine ax_iand hC dX4_unpack_29 ?_
  refine ax_eqi (y := nI b) ((i32_and _ 6).trans (congrArg nI (by unfold pkN; omega))) ?_
  have b15 : vp_in 1 2 := vp_in_iff.mpr (by decide)
  refine ax_iast hC e4 1 rfl b15 dX4_unpack_30 (fun h16 e17 f18 => ?_)
  have x19 : h16 mt = some (.inr (6, [.int (nI fo), .int 0, .int 0, .int (-2), .int most, .ref cm, .ref (mt + 1), .ref (mt + 2), .ref (mt + 3), .ref (mt + 4), .ref (mt + 5), .ref (mt + 6), .ref (mt + 7), .int nr, .int over])) := (f18 _ (by omega)).trans x6
  have x20 : h16 (mt + 1) = some (.inl (z 2, 3000, .inr (.inl (pl)))) := (f18 _ (by omega)).trans x7
  have x21 : h16 (mt + 2) = some (.inl (z 1, 3000, .inl (mv))) := (f18 _ (by omega)).trans x8
  have x22 : h16 (mt + 3) = some (.inl (z 1, 8192, .inl (sl))) := (f18 _ (by omega)).trans x9
  have x23 : h16 (mt + 4) = some (.inl (z 0, 7200, .inl (ft))) := (f18 _ (by omega)).trans x10
  have x24 : h16 (mt + 5) = some (.inl (z 5, 2, .inr (.inr (.inr (.inr (tk)))))) := (f18 _ (by omega)).trans x11
  have x25 : h16 (mt + 7) = some (.inl (z 1, 2, .inl (lns))) := (f18 _ (by omega)).trans x12
  refine ax_aload_n hC 2 dX4_unpack_31 rfl rfl ?_
  refine ax_getf (v := .ref (mt + 7)) hC x19 iX4 rfl 12 (by decide) (by decide +kernel) rfl rfl dX4_unpack_32 ?_
  refine ax_iconst (v := 0) hC dX4_unpack_35 (by decide) ?_
  refine ax_lload_n hC 3 dX4_unpack_36 rfl rfl ?_
  refine ax_bipush (v := 12) hC dX4_unpack_37 (by decide) ?_
  refine ax_lshr hC dX4_unpack_39 rfl ?_
  refine ax_eql (y := Int64.ofNat (pkN a b l0 l1 / 2 ^ 12)) (i64_shr _ 12 _ (by decide) (by unfold pkN; omega)) ?_
  refine ax_l2i hC dX4_unpack_40 rfl ?_
  refine ax_eqi (y := nI (pkN a b l0 l1 / 2 ^ 12)) (i64_i _) ?_
  refine ax_iload hC 0 dX4_unpack_41 rfl ?_
  refine ax_iand hC dX4_unpack_43 ?_
  refine ax_eqi (y := nI l0) ((i32_and _ 14).trans (congrArg nI (by unfold pkN; omega))) ?_
  have b28 : vp_in 0 2 := vp_in_iff.mpr (by decide)
  refine ax_iast hC x25 1 rfl b28 dX4_unpack_44 (fun h29 e30 f31 => ?_)
  have x32 : h29 mt = some (.inr (6, [.int (nI fo), .int 0, .int 0, .int (-2), .int most, .ref cm, .ref (mt + 1), .ref (mt + 2), .ref (mt + 3), .ref (mt + 4), .ref (mt + 5), .ref (mt + 6), .ref (mt + 7), .int nr, .int over])) := (f31 _ (by omega)).trans x19
  have x33 : h29 (mt + 1) = some (.inl (z 2, 3000, .inr (.inl (pl)))) := (f31 _ (by omega)).trans x20
  have x34 : h29 (mt + 2) = some (.inl (z 1, 3000, .inl (mv))) := (f31 _ (by omega)).trans x21
  have x35 : h29 (mt + 3) = some (.inl (z 1, 8192, .inl (sl))) := (f31 _ (by omega)).trans x22
  have x36 : h29 (mt + 4) = some (.inl (z 0, 7200, .inl (ft))) := (f31 _ (by omega)).trans x23
  have x37 : h29 (mt + 5) = some (.inl (z 5, 2, .inr (.inr (.inr (.inr (tk)))))) := (f31 _ (by omega)).trans x24
  have x38 : h29 (mt + 6) = some (.inl (z 1, 2, .inl (upd (upd ats (0 : Int32).toNatClampNeg (nI a)) (1 : Int32).toNatClampNeg (nI b)))) := (f31 _ (by omega)).trans e17
  refine ax_aload_n hC 2 dX4_unpack_45 rfl rfl ?_
  refine ax_getf (v := .ref (mt + 7)) hC x32 iX4 rfl 12 (by decide) (by decide +kernel) rfl rfl dX4_unpack_46 ?_
  refine ax_iconst (v := 1) hC dX4_unpack_49 (by decide) ?_
  refine ax_lload_n hC 3 dX4_unpack_50 rfl rfl ?_
  refine ax_bipush (v := 26) hC dX4_unpack_51 (by decide) ?_
  refine ax_lshr hC dX4_unpack_53 rfl ?_
  refine ax_eql (y := Int64.ofNat (pkN a b l0 l1 / 2 ^ 26)) (i64_shr _ 26 _ (by decide) (by unfold pkN; omega)) ?_
  refine ax_l2i hC dX4_unpack_54 rfl ?_
  refine ax_eqi (y := nI (pkN a b l0 l1 / 2 ^ 26)) (i64_i _) ?_
  refine ax_iload hC 0 dX4_unpack_55 rfl ?_
  refine ax_iand hC dX4_unpack_57 ?_
  refine ax_eqi (y := nI l1) ((i32_and _ 14).trans (congrArg nI (by unfold pkN; omega))) ?_
  have b41 : vp_in 1 2 := vp_in_iff.mpr (by decide)
  refine ax_iast hC e30 1 rfl b41 dX4_unpack_58 (fun h42 e43 f44 => ?_)
  have x45 : h42 mt = some (.inr (6, [.int (nI fo), .int 0, .int 0, .int (-2), .int most, .ref cm, .ref (mt + 1), .ref (mt + 2), .ref (mt + 3), .ref (mt + 4), .ref (mt + 5), .ref (mt + 6), .ref (mt + 7), .int nr, .int over])) := (f44 _ (by omega)).trans x32
  have x46 : h42 (mt + 1) = some (.inl (z 2, 3000, .inr (.inl (pl)))) := (f44 _ (by omega)).trans x33
  have x47 : h42 (mt + 2) = some (.inl (z 1, 3000, .inl (mv))) := (f44 _ (by omega)).trans x34
  have x48 : h42 (mt + 3) = some (.inl (z 1, 8192, .inl (sl))) := (f44 _ (by omega)).trans x35
  have x49 : h42 (mt + 4) = some (.inl (z 0, 7200, .inl (ft))) := (f44 _ (by omega)).trans x36
  have x50 : h42 (mt + 5) = some (.inl (z 5, 2, .inr (.inr (.inr (.inr (tk)))))) := (f44 _ (by omega)).trans x37
  have x51 : h42 (mt + 6) = some (.inl (z 1, 2, .inl (upd (upd ats (0 : Int32).toNatClampNeg (nI a)) (1 : Int32).toNatClampNeg (nI b)))) := (f44 _ (by omega)).trans x38
  refine ax_vret hC hr hlocks dX4_unpack_59 ?_
  exact ⟨rfl, fun q hq => ((f44 q (by omega)).trans ((f31 q (by omega)).trans ((f18 q (by omega)).trans (f5 q (by omega))))), ⟨_, _, _, _, _, _, _, _, _, _, x45, x46, x47, x48, x49, x50, x51, e43, hfo, hov, hk0, hk1, (ua10 _ _).trans (ua00 _ _), ua11 _ _, (ua10 _ _).trans (ua00 _ _), ua11 _ _, hpl, hft⟩⟩

abbrev rmX4_reach : Room := { frames := 1, cells := 0, slots := 0, locals := 22 }
set_option maxRecDepth 100000 in
set_option maxHeartbeats 4000000 in
theorem c_X4_reach (l : Launch) (D : va_G) (z : Nat → ClassId) (B : Heap) (lo hi : Nat) (h : Nat → Option va_E) (mt cm aF aG : Nat) (nr : Int32) (TF TG : PT) (W : Nat → Nat → Prop) (a b l0 l1 : Nat) (steps : Int32) (hX : MtX z h mt cm aF aG nr TF TG W a b l0 l1) (hok : PlaceOK TF TG W a b l0 l1) (ha : a < 64) (hb : b < 64) (hl0 : l0 < 16384) (hl1 : l1 < 16384) : Met l yX4_reach wsX4_reach rmX4_reach (KP D vwCl B lo hi h (ty6 z) [.ref mt, .int steps]) (KQv D vwCl B lo (ty6 z) (fun hi' h' => hi' = hi ∧ (∀ q, (q < mt ∨ mt + 8 ≤ q) → h' q = h q) ∧ MtX z h' mt cm aF aG nr TF TG W a b l0 l1)) 0 0 (fun q => lo ≤ q) := by
  obtain ⟨fo, most, over, pl, mv, sl, ft, tk, ats, lns, q0, q1, q2, q3, q4, q5, q6, q7, hfo, hov, hk0, hk1, hta, htb, hz0, hz1, hpl, hft⟩ := id hX
  refine ax_met (by decide) rfl (Nat.le_of_ble_eq_true rfl) (L0 := [(0, .ref mt), (1, .int steps)]) rfl ?_
  intro p e s m args below meth c hC hr hlocks hnm hargs
  have iX4 : ∀ w ∈ u_ws RX4 TX4 15, w ∈ wsX4_reach := by decide +kernel
  have LP : ∀ (n t : Nat) (sl1 : Int32), t + n = 8192 → Gx p l e rmX4_reach s m args below meth c D vwCl B lo 8 (MQ below (KQv D vwCl B lo (ty6 z) (fun hi' h' => hi' = hi ∧ (∀ q, (q < mt ∨ mt + 8 ≤ q) → h' q = h q) ∧ MtX z h' mt cm aF aG nr TF TG W a b l0 l1)) args s 0 0 (fun q => lo ≤ q)) hi h 0 0 [(5, .int (nI t)), (4, .int sl1), (2, .long (Int64.ofNat (pkN a b l0 l1))), (1, .int steps), (0, .ref mt)] 19 [] := by
    intro n
    induction n with
    | zero =>
      intro t sl1 htn
      refine ax_iload hC 0 dX4_reach_19 rfl ?_
      refine ax_sipush (v := 8192) hC dX4_reach_21 (by decide) ?_
      refine ax_icmp_ge (tgt := 162) hC dX4_reach_24 (by decide) (fun c1001 => ?_) (fun c1001 => ?_)
      · refine ax_vret hC hr hlocks dX4_reach_162 ?_
        exact ⟨rfl, fun q hq => rfl, ⟨_, _, _, _, _, _, _, _, _, _, q0, q1, q2, q3, q4, q5, q6, q7, hfo, hov, hk0, hk1, hta, htb, hz0, hz1, hpl, hft⟩⟩
      · exact absurd (by rw [L_leN (k := 8192) (by decide) (by omega)]; omega) c1001
    | succ n ih =>
      intro t sl1 htn
      refine ax_iload hC 0 dX4_reach_19 rfl ?_
      refine ax_sipush (v := 8192) hC dX4_reach_21 (by decide) ?_
      refine ax_icmp_ge (tgt := 162) hC dX4_reach_24 (by decide) (fun c2001 => ?_) (fun c2001 => ?_)
      · refine ax_vret hC hr hlocks dX4_reach_162 ?_
        exact ⟨rfl, fun q hq => rfl, ⟨_, _, _, _, _, _, _, _, _, _, q0, q1, q2, q3, q4, q5, q6, q7, hfo, hov, hk0, hk1, hta, htb, hz0, hz1, hpl, hft⟩⟩
      · refine ax_iload hC 1 dX4_reach_27 rfl ?_
        refine ax_iload hC 0 dX4_reach_29 rfl ?_
        refine ax_iadd hC dX4_reach_31 ?_
        refine ax_sipush (v := 8191) hC dX4_reach_32 (by decide) ?_
        refine ax_iand hC dX4_reach_35 ?_
        refine ax_istore hC [(6, .int ((sl1 + (nI t)) &&& 8191)), (5, .int (nI t)), (4, .int sl1), (2, .long (Int64.ofNat (pkN a b l0 l1))), (1, .int steps), (0, .ref mt)] dX4_reach_36 (by decide) rfl ?_
        refine ax_aload_n hC 5 dX4_reach_38 rfl rfl ?_
        refine ax_getf (v := .ref (mt + 3)) hC q0 iX4 rfl 8 (by decide) (by decide +kernel) rfl rfl dX4_reach_39 ?_
        refine ax_iload hC 0 dX4_reach_42 rfl ?_
        have b2002 : vp_in ((sl1 + (nI t)) &&& 8191) 8192 := i32_and_in _
        refine ax_iald hC q3 1 rfl b2002 dX4_reach_44 ?_
        refine ax_iconst (v := 1) hC dX4_reach_45 (by decide) ?_
        refine ax_isub hC dX4_reach_46 ?_
        refine ax_istore hC [(7, .int ((sl ((sl1 + (nI t)) &&& 8191).toNatClampNeg) - 1)), (6, .int ((sl1 + (nI t)) &&& 8191)), (5, .int (nI t)), (4, .int sl1), (2, .long (Int64.ofNat (pkN a b l0 l1))), (1, .int steps), (0, .ref mt)] dX4_reach_47 (by decide) rfl ?_
        refine ax_iload hC 0 dX4_reach_49 rfl ?_
        refine ax_if_lt (tgt := 75) hC dX4_reach_51 (by decide) (fun c2003 => ?_) (fun c2003 => ?_)
        · refine ax_iload hC 0 dX4_reach_75 rfl ?_
          refine ax_if_ge (tgt := 156) hC dX4_reach_77 (by decide) (fun c2004 => ?_) (fun c2004 => ?_)
          · refine ax_iinc (v := (nI t) + 1) hC 2 [(5, .int ((nI t) + 1)), (7, .int ((sl ((sl1 + (nI t)) &&& 8191).toNatClampNeg) - 1)), (6, .int ((sl1 + (nI t)) &&& 8191)), (4, .int sl1), (2, .long (Int64.ofNat (pkN a b l0 l1))), (1, .int steps), (0, .ref mt)] dX4_reach_156 rfl rfl (by decide) rfl ?_
            refine ax_goto (tgt := 19) hC dX4_reach_159 (by decide) ?_
            refine ax_locals [0, 3, 4, 5, 6] (L' := [(5, .int ((nI t) + 1)), (4, .int sl1), (2, .long (Int64.ofNat (pkN a b l0 l1))), (1, .int steps), (0, .ref mt)]) rfl ?_
            rw [show (nI t + 1) = nI (t + 1) from nI_1 t]
            exact ih (t + 1) _ (by omega)
          · refine ax_aload_n hC 6 dX4_reach_80 rfl rfl ?_
            refine ax_aload_n hC 6 dX4_reach_81 rfl rfl ?_
            refine ax_getf (v := .int over) hC q0 iX4 rfl 14 (by decide) (by decide +kernel) rfl rfl dX4_reach_82 ?_
            refine ax_if_ne (tgt := 98) hC dX4_reach_85 (by decide) (fun c2006 => ?_) (fun c2006 => ?_)
            · refine ax_iconst (v := 1) hC dX4_reach_98 (by decide) ?_
              refine ax_goto (tgt := 103) hC dX4_reach_99 (by decide) ?_
              refine ax_putf (v := .int 1) (ty := .boolean) hC tyX4 q0 iX4 tyX4_ok nmX4 rfl 14 (by decide) (by decide +kernel) rfl rfl (by decide +kernel) (rfl) rfl (Nat.le_of_ble_eq_true rfl) dX4_reach_103 (fun h2007 e2008 f2009 => ?_)
              have e2008 : h2007 mt = some (.inr (6, [.int (nI fo), .int 0, .int 0, .int (-2), .int most, .ref cm, .ref (mt + 1), .ref (mt + 2), .ref (mt + 3), .ref (mt + 4), .ref (mt + 5), .ref (mt + 6), .ref (mt + 7), .int nr, .int 1])) := e2008
              have x2010 : h2007 (mt + 1) = some (.inl (z 2, 3000, .inr (.inl (pl)))) := (f2009 _ (by omega)).trans q1
              have x2011 : h2007 (mt + 2) = some (.inl (z 1, 3000, .inl (mv))) := (f2009 _ (by omega)).trans q2
              have x2012 : h2007 (mt + 3) = some (.inl (z 1, 8192, .inl (sl))) := (f2009 _ (by omega)).trans q3
              have x2013 : h2007 (mt + 4) = some (.inl (z 0, 7200, .inl (ft))) := (f2009 _ (by omega)).trans q4
              have x2014 : h2007 (mt + 5) = some (.inl (z 5, 2, .inr (.inr (.inr (.inr (tk)))))) := (f2009 _ (by omega)).trans q5
              have x2015 : h2007 (mt + 6) = some (.inl (z 1, 2, .inl (ats))) := (f2009 _ (by omega)).trans q6
              have x2016 : h2007 (mt + 7) = some (.inl (z 1, 2, .inl (lns))) := (f2009 _ (by omega)).trans q7
              refine ax_aload_n hC 6 dX4_reach_106 rfl rfl ?_
              refine ax_getf (v := .int 1) hC e2008 iX4 rfl 14 (by decide) (by decide +kernel) rfl rfl dX4_reach_107 ?_
              refine ax_if_eq (tgt := 114) hC dX4_reach_110 (by decide) (fun c2017 => ?_) (fun c2017 => ?_)
              · exact absurd c2017 (by decide)
              · refine ax_vret hC hr hlocks dX4_reach_113 ?_
                exact ⟨rfl, fun q hq => (f2009 q (by omega)), ⟨_, _, _, _, _, _, _, _, _, _, e2008, x2010, x2011, x2012, x2013, x2014, x2015, x2016, hfo, (Or.inr rfl), hk0, hk1, hta, htb, hz0, hz1, hpl, hft⟩⟩
            · refine ax_aload_n hC 6 dX4_reach_88 rfl rfl ?_
              refine ax_getf (v := .int (nI fo)) hC q0 iX4 rfl 0 (by decide) (by decide +kernel) rfl rfl dX4_reach_89 ?_
              refine ax_sipush (v := 3000) hC dX4_reach_92 (by decide) ?_
              refine ax_icmp_lt (tgt := 102) hC dX4_reach_95 (by decide) (fun c2018 => ?_) (fun c2018 => ?_)
              · have hfo2 : fo < 3000 := by have := (nI_ltL (k := 3000) (by decide) (by omega)).mp c2018; omega
                refine ax_iconst (v := 0) hC dX4_reach_102 (by decide) ?_
                refine ax_putf (v := .int 0) (ty := .boolean) hC tyX4 q0 iX4 tyX4_ok nmX4 rfl 14 (by decide) (by decide +kernel) rfl rfl (by decide +kernel) (rfl) rfl (Nat.le_of_ble_eq_true rfl) dX4_reach_103 (fun h2019 e2020 f2021 => ?_)
                have e2020 : h2019 mt = some (.inr (6, [.int (nI fo), .int 0, .int 0, .int (-2), .int most, .ref cm, .ref (mt + 1), .ref (mt + 2), .ref (mt + 3), .ref (mt + 4), .ref (mt + 5), .ref (mt + 6), .ref (mt + 7), .int nr, .int 0])) := e2020
                have x2022 : h2019 (mt + 1) = some (.inl (z 2, 3000, .inr (.inl (pl)))) := (f2021 _ (by omega)).trans q1
                have x2023 : h2019 (mt + 2) = some (.inl (z 1, 3000, .inl (mv))) := (f2021 _ (by omega)).trans q2
                have x2024 : h2019 (mt + 3) = some (.inl (z 1, 8192, .inl (sl))) := (f2021 _ (by omega)).trans q3
                have x2025 : h2019 (mt + 4) = some (.inl (z 0, 7200, .inl (ft))) := (f2021 _ (by omega)).trans q4
                have x2026 : h2019 (mt + 5) = some (.inl (z 5, 2, .inr (.inr (.inr (.inr (tk)))))) := (f2021 _ (by omega)).trans q5
                have x2027 : h2019 (mt + 6) = some (.inl (z 1, 2, .inl (ats))) := (f2021 _ (by omega)).trans q6
                have x2028 : h2019 (mt + 7) = some (.inl (z 1, 2, .inl (lns))) := (f2021 _ (by omega)).trans q7
                refine ax_aload_n hC 6 dX4_reach_106 rfl rfl ?_
                refine ax_getf (v := .int 0) hC e2020 iX4 rfl 14 (by decide) (by decide +kernel) rfl rfl dX4_reach_107 ?_
                refine ax_if_eq (tgt := 114) hC dX4_reach_110 (by decide) (fun c2029 => ?_) (fun c2029 => ?_)
                · refine ax_aload_n hC 6 dX4_reach_114 rfl rfl ?_
                  refine ax_getf (v := .ref (mt + 1)) hC e2020 iX4 rfl 6 (by decide) (by decide +kernel) rfl rfl dX4_reach_115 ?_
                  refine ax_aload_n hC 6 dX4_reach_118 rfl rfl ?_
                  refine ax_getf (v := .int (nI fo)) hC e2020 iX4 rfl 0 (by decide) (by decide +kernel) rfl rfl dX4_reach_119 ?_
                  refine ax_lload_n hC 4 dX4_reach_122 rfl rfl ?_
                  have b2030 : vp_in (nI fo) 3000 := vp_in_nI (by omega) (by omega)
                  refine ax_last hC x2022 2 rfl b2030 dX4_reach_123 (fun h2031 e2032 f2033 => ?_)
                  rw [nI_clamp (by omega)] at e2032
                  have x2034 : h2031 (mt + 2) = some (.inl (z 1, 3000, .inl (mv))) := (f2033 _ (by omega)).trans x2023
                  have x2035 : h2031 (mt + 3) = some (.inl (z 1, 8192, .inl (sl))) := (f2033 _ (by omega)).trans x2024
                  have x2036 : h2031 (mt + 4) = some (.inl (z 0, 7200, .inl (ft))) := (f2033 _ (by omega)).trans x2025
                  have x2037 : h2031 (mt + 5) = some (.inl (z 5, 2, .inr (.inr (.inr (.inr (tk)))))) := (f2033 _ (by omega)).trans x2026
                  have x2038 : h2031 (mt + 6) = some (.inl (z 1, 2, .inl (ats))) := (f2033 _ (by omega)).trans x2027
                  have x2039 : h2031 (mt + 7) = some (.inl (z 1, 2, .inl (lns))) := (f2033 _ (by omega)).trans x2028
                  have x2040 : h2031 mt = some (.inr (6, [.int (nI fo), .int 0, .int 0, .int (-2), .int most, .ref cm, .ref (mt + 1), .ref (mt + 2), .ref (mt + 3), .ref (mt + 4), .ref (mt + 5), .ref (mt + 6), .ref (mt + 7), .int nr, .int 0])) := (f2033 _ (by omega)).trans e2020
                  refine ax_aload_n hC 6 dX4_reach_124 rfl rfl ?_
                  refine ax_getf (v := .ref (mt + 2)) hC x2040 iX4 rfl 7 (by decide) (by decide +kernel) rfl rfl dX4_reach_125 ?_
                  refine ax_aload_n hC 6 dX4_reach_128 rfl rfl ?_
                  refine ax_getf (v := .int (nI fo)) hC x2040 iX4 rfl 0 (by decide) (by decide +kernel) rfl rfl dX4_reach_129 ?_
                  refine ax_iload_n hC 5 dX4_reach_132 rfl rfl ?_
                  have b2041 : vp_in (nI fo) 3000 := vp_in_nI (by omega) (by omega)
                  refine ax_iast hC x2034 1 rfl b2041 dX4_reach_133 (fun h2042 e2043 f2044 => ?_)
                  rw [nI_clamp (by omega)] at e2043
                  have x2045 : h2042 (mt + 3) = some (.inl (z 1, 8192, .inl (sl))) := (f2044 _ (by omega)).trans x2035
                  have x2046 : h2042 (mt + 4) = some (.inl (z 0, 7200, .inl (ft))) := (f2044 _ (by omega)).trans x2036
                  have x2047 : h2042 (mt + 5) = some (.inl (z 5, 2, .inr (.inr (.inr (.inr (tk)))))) := (f2044 _ (by omega)).trans x2037
                  have x2048 : h2042 (mt + 6) = some (.inl (z 1, 2, .inl (ats))) := (f2044 _ (by omega)).trans x2038
                  have x2049 : h2042 (mt + 7) = some (.inl (z 1, 2, .inl (lns))) := (f2044 _ (by omega)).trans x2039
                  have x2050 : h2042 mt = some (.inr (6, [.int (nI fo), .int 0, .int 0, .int (-2), .int most, .ref cm, .ref (mt + 1), .ref (mt + 2), .ref (mt + 3), .ref (mt + 4), .ref (mt + 5), .ref (mt + 6), .ref (mt + 7), .int nr, .int 0])) := (f2044 _ (by omega)).trans x2040
                  have x2051 : h2042 (mt + 1) = some (.inl (z 2, 3000, .inr (.inl (vp_updL pl fo (Int64.ofNat (pkN a b l0 l1)))))) := (f2044 _ (by omega)).trans e2032
                  refine ax_aload_n hC 6 dX4_reach_134 rfl rfl ?_
                  refine ax_dup hC dX4_reach_135 rfl ?_
                  refine ax_getf (v := .int (nI fo)) hC x2050 iX4 rfl 0 (by decide) (by decide +kernel) rfl rfl dX4_reach_136 ?_
                  refine ax_iconst (v := 1) hC dX4_reach_139 (by decide) ?_
                  refine ax_iadd hC dX4_reach_140 ?_
                  refine ax_eqi (y := nI (fo + 1)) (nI_1 fo) ?_
                  refine ax_putf (v := .int (nI (fo + 1))) (ty := .int) hC tyX4 x2050 iX4 tyX4_ok nmX4 rfl 0 (by decide) (by decide +kernel) rfl rfl (by decide +kernel) (rfl) rfl (Nat.le_of_ble_eq_true rfl) dX4_reach_141 (fun h2052 e2053 f2054 => ?_)
                  have e2053 : h2052 mt = some (.inr (6, [.int (nI (fo + 1)), .int 0, .int 0, .int (-2), .int most, .ref cm, .ref (mt + 1), .ref (mt + 2), .ref (mt + 3), .ref (mt + 4), .ref (mt + 5), .ref (mt + 6), .ref (mt + 7), .int nr, .int 0])) := e2053
                  have x2055 : h2052 (mt + 3) = some (.inl (z 1, 8192, .inl (sl))) := (f2054 _ (by omega)).trans x2045
                  have x2056 : h2052 (mt + 4) = some (.inl (z 0, 7200, .inl (ft))) := (f2054 _ (by omega)).trans x2046
                  have x2057 : h2052 (mt + 5) = some (.inl (z 5, 2, .inr (.inr (.inr (.inr (tk)))))) := (f2054 _ (by omega)).trans x2047
                  have x2058 : h2052 (mt + 6) = some (.inl (z 1, 2, .inl (ats))) := (f2054 _ (by omega)).trans x2048
                  have x2059 : h2052 (mt + 7) = some (.inl (z 1, 2, .inl (lns))) := (f2054 _ (by omega)).trans x2049
                  have x2060 : h2052 (mt + 1) = some (.inl (z 2, 3000, .inr (.inl (vp_updL pl fo (Int64.ofNat (pkN a b l0 l1)))))) := (f2054 _ (by omega)).trans x2051
                  have x2061 : h2052 (mt + 2) = some (.inl (z 1, 3000, .inl (upd mv fo steps))) := (f2054 _ (by omega)).trans e2043
                  refine ax_aload_n hC 6 dX4_reach_144 rfl rfl ?_
                  refine ax_getf (v := .ref (mt + 3)) hC e2053 iX4 rfl 8 (by decide) (by decide +kernel) rfl rfl dX4_reach_145 ?_
                  refine ax_iload hC 1 dX4_reach_148 rfl ?_
                  refine ax_aload_n hC 6 dX4_reach_150 rfl rfl ?_
                  refine ax_getf (v := .int (nI (fo + 1))) hC e2053 iX4 rfl 0 (by decide) (by decide +kernel) rfl rfl dX4_reach_151 ?_
                  have b2062 : vp_in ((sl1 + (nI t)) &&& 8191) 8192 := i32_and_in _
                  refine ax_iast hC x2055 1 rfl b2062 dX4_reach_154 (fun h2063 e2064 f2065 => ?_)
                  have x2066 : h2063 (mt + 4) = some (.inl (z 0, 7200, .inl (ft))) := (f2065 _ (by omega)).trans x2056
                  have x2067 : h2063 (mt + 5) = some (.inl (z 5, 2, .inr (.inr (.inr (.inr (tk)))))) := (f2065 _ (by omega)).trans x2057
                  have x2068 : h2063 (mt + 6) = some (.inl (z 1, 2, .inl (ats))) := (f2065 _ (by omega)).trans x2058
                  have x2069 : h2063 (mt + 7) = some (.inl (z 1, 2, .inl (lns))) := (f2065 _ (by omega)).trans x2059
                  have x2070 : h2063 (mt + 1) = some (.inl (z 2, 3000, .inr (.inl (vp_updL pl fo (Int64.ofNat (pkN a b l0 l1)))))) := (f2065 _ (by omega)).trans x2060
                  have x2071 : h2063 (mt + 2) = some (.inl (z 1, 3000, .inl (upd mv fo steps))) := (f2065 _ (by omega)).trans x2061
                  have x2072 : h2063 mt = some (.inr (6, [.int (nI (fo + 1)), .int 0, .int 0, .int (-2), .int most, .ref cm, .ref (mt + 1), .ref (mt + 2), .ref (mt + 3), .ref (mt + 4), .ref (mt + 5), .ref (mt + 6), .ref (mt + 7), .int nr, .int 0])) := (f2065 _ (by omega)).trans e2053
                  refine ax_vret hC hr hlocks dX4_reach_155 ?_
                  exact ⟨rfl, fun q hq => ((f2065 q (by omega)).trans ((f2054 q (by omega)).trans ((f2044 q (by omega)).trans ((f2033 q (by omega)).trans (f2021 q (by omega)))))), ⟨_, _, _, _, _, _, _, _, _, _, x2072, x2070, x2071, e2064, x2066, x2067, x2068, x2069, (by omega), (Or.inl rfl), hk0, hk1, hta, htb, hz0, hz1, (PP_add hpl ⟨a, b, l0, l1, rfl, hok⟩), hft⟩⟩
                · exact absurd c2029 (by decide)
              · refine ax_iconst (v := 1) hC dX4_reach_98 (by decide) ?_
                refine ax_goto (tgt := 103) hC dX4_reach_99 (by decide) ?_
                refine ax_putf (v := .int 1) (ty := .boolean) hC tyX4 q0 iX4 tyX4_ok nmX4 rfl 14 (by decide) (by decide +kernel) rfl rfl (by decide +kernel) (rfl) rfl (Nat.le_of_ble_eq_true rfl) dX4_reach_103 (fun h2073 e2074 f2075 => ?_)
                have e2074 : h2073 mt = some (.inr (6, [.int (nI fo), .int 0, .int 0, .int (-2), .int most, .ref cm, .ref (mt + 1), .ref (mt + 2), .ref (mt + 3), .ref (mt + 4), .ref (mt + 5), .ref (mt + 6), .ref (mt + 7), .int nr, .int 1])) := e2074
                have x2076 : h2073 (mt + 1) = some (.inl (z 2, 3000, .inr (.inl (pl)))) := (f2075 _ (by omega)).trans q1
                have x2077 : h2073 (mt + 2) = some (.inl (z 1, 3000, .inl (mv))) := (f2075 _ (by omega)).trans q2
                have x2078 : h2073 (mt + 3) = some (.inl (z 1, 8192, .inl (sl))) := (f2075 _ (by omega)).trans q3
                have x2079 : h2073 (mt + 4) = some (.inl (z 0, 7200, .inl (ft))) := (f2075 _ (by omega)).trans q4
                have x2080 : h2073 (mt + 5) = some (.inl (z 5, 2, .inr (.inr (.inr (.inr (tk)))))) := (f2075 _ (by omega)).trans q5
                have x2081 : h2073 (mt + 6) = some (.inl (z 1, 2, .inl (ats))) := (f2075 _ (by omega)).trans q6
                have x2082 : h2073 (mt + 7) = some (.inl (z 1, 2, .inl (lns))) := (f2075 _ (by omega)).trans q7
                refine ax_aload_n hC 6 dX4_reach_106 rfl rfl ?_
                refine ax_getf (v := .int 1) hC e2074 iX4 rfl 14 (by decide) (by decide +kernel) rfl rfl dX4_reach_107 ?_
                refine ax_if_eq (tgt := 114) hC dX4_reach_110 (by decide) (fun c2083 => ?_) (fun c2083 => ?_)
                · exact absurd c2083 (by decide)
                · refine ax_vret hC hr hlocks dX4_reach_113 ?_
                  exact ⟨rfl, fun q hq => (f2075 q (by omega)), ⟨_, _, _, _, _, _, _, _, _, _, e2074, x2076, x2077, x2078, x2079, x2080, x2081, x2082, hfo, (Or.inr rfl), hk0, hk1, hta, htb, hz0, hz1, hpl, hft⟩⟩
        · refine ax_iload hC 0 dX4_reach_54 rfl ?_
          refine ax_sipush (v := 3000) hC dX4_reach_56 (by decide) ?_
          refine ax_icmp_ge (tgt := 75) hC dX4_reach_59 (by decide) (fun c2084 => ?_) (fun c2084 => ?_)
          · refine ax_iload hC 0 dX4_reach_75 rfl ?_
            refine ax_if_ge (tgt := 156) hC dX4_reach_77 (by decide) (fun c2085 => ?_) (fun c2085 => ?_)
            · refine ax_iinc (v := (nI t) + 1) hC 2 [(5, .int ((nI t) + 1)), (7, .int ((sl ((sl1 + (nI t)) &&& 8191).toNatClampNeg) - 1)), (6, .int ((sl1 + (nI t)) &&& 8191)), (4, .int sl1), (2, .long (Int64.ofNat (pkN a b l0 l1))), (1, .int steps), (0, .ref mt)] dX4_reach_156 rfl rfl (by decide) rfl ?_
              refine ax_goto (tgt := 19) hC dX4_reach_159 (by decide) ?_
              refine ax_locals [0, 3, 4, 5, 6] (L' := [(5, .int ((nI t) + 1)), (4, .int sl1), (2, .long (Int64.ofNat (pkN a b l0 l1))), (1, .int steps), (0, .ref mt)]) rfl ?_
              rw [show (nI t + 1) = nI (t + 1) from nI_1 t]
              exact ih (t + 1) _ (by omega)
            · refine ax_aload_n hC 6 dX4_reach_80 rfl rfl ?_
              refine ax_aload_n hC 6 dX4_reach_81 rfl rfl ?_
              refine ax_getf (v := .int over) hC q0 iX4 rfl 14 (by decide) (by decide +kernel) rfl rfl dX4_reach_82 ?_
              refine ax_if_ne (tgt := 98) hC dX4_reach_85 (by decide) (fun c2087 => ?_) (fun c2087 => ?_)
              · refine ax_iconst (v := 1) hC dX4_reach_98 (by decide) ?_
                refine ax_goto (tgt := 103) hC dX4_reach_99 (by decide) ?_
                refine ax_putf (v := .int 1) (ty := .boolean) hC tyX4 q0 iX4 tyX4_ok nmX4 rfl 14 (by decide) (by decide +kernel) rfl rfl (by decide +kernel) (rfl) rfl (Nat.le_of_ble_eq_true rfl) dX4_reach_103 (fun h2088 e2089 f2090 => ?_)
                have e2089 : h2088 mt = some (.inr (6, [.int (nI fo), .int 0, .int 0, .int (-2), .int most, .ref cm, .ref (mt + 1), .ref (mt + 2), .ref (mt + 3), .ref (mt + 4), .ref (mt + 5), .ref (mt + 6), .ref (mt + 7), .int nr, .int 1])) := e2089
                have x2091 : h2088 (mt + 1) = some (.inl (z 2, 3000, .inr (.inl (pl)))) := (f2090 _ (by omega)).trans q1
                have x2092 : h2088 (mt + 2) = some (.inl (z 1, 3000, .inl (mv))) := (f2090 _ (by omega)).trans q2
                have x2093 : h2088 (mt + 3) = some (.inl (z 1, 8192, .inl (sl))) := (f2090 _ (by omega)).trans q3
                have x2094 : h2088 (mt + 4) = some (.inl (z 0, 7200, .inl (ft))) := (f2090 _ (by omega)).trans q4
                have x2095 : h2088 (mt + 5) = some (.inl (z 5, 2, .inr (.inr (.inr (.inr (tk)))))) := (f2090 _ (by omega)).trans q5
                have x2096 : h2088 (mt + 6) = some (.inl (z 1, 2, .inl (ats))) := (f2090 _ (by omega)).trans q6
                have x2097 : h2088 (mt + 7) = some (.inl (z 1, 2, .inl (lns))) := (f2090 _ (by omega)).trans q7
                refine ax_aload_n hC 6 dX4_reach_106 rfl rfl ?_
                refine ax_getf (v := .int 1) hC e2089 iX4 rfl 14 (by decide) (by decide +kernel) rfl rfl dX4_reach_107 ?_
                refine ax_if_eq (tgt := 114) hC dX4_reach_110 (by decide) (fun c2098 => ?_) (fun c2098 => ?_)
                · exact absurd c2098 (by decide)
                · refine ax_vret hC hr hlocks dX4_reach_113 ?_
                  exact ⟨rfl, fun q hq => (f2090 q (by omega)), ⟨_, _, _, _, _, _, _, _, _, _, e2089, x2091, x2092, x2093, x2094, x2095, x2096, x2097, hfo, (Or.inr rfl), hk0, hk1, hta, htb, hz0, hz1, hpl, hft⟩⟩
              · refine ax_aload_n hC 6 dX4_reach_88 rfl rfl ?_
                refine ax_getf (v := .int (nI fo)) hC q0 iX4 rfl 0 (by decide) (by decide +kernel) rfl rfl dX4_reach_89 ?_
                refine ax_sipush (v := 3000) hC dX4_reach_92 (by decide) ?_
                refine ax_icmp_lt (tgt := 102) hC dX4_reach_95 (by decide) (fun c2099 => ?_) (fun c2099 => ?_)
                · have hfo2 : fo < 3000 := by have := (nI_ltL (k := 3000) (by decide) (by omega)).mp c2099; omega
                  refine ax_iconst (v := 0) hC dX4_reach_102 (by decide) ?_
                  refine ax_putf (v := .int 0) (ty := .boolean) hC tyX4 q0 iX4 tyX4_ok nmX4 rfl 14 (by decide) (by decide +kernel) rfl rfl (by decide +kernel) (rfl) rfl (Nat.le_of_ble_eq_true rfl) dX4_reach_103 (fun h2100 e2101 f2102 => ?_)
                  have e2101 : h2100 mt = some (.inr (6, [.int (nI fo), .int 0, .int 0, .int (-2), .int most, .ref cm, .ref (mt + 1), .ref (mt + 2), .ref (mt + 3), .ref (mt + 4), .ref (mt + 5), .ref (mt + 6), .ref (mt + 7), .int nr, .int 0])) := e2101
                  have x2103 : h2100 (mt + 1) = some (.inl (z 2, 3000, .inr (.inl (pl)))) := (f2102 _ (by omega)).trans q1
                  have x2104 : h2100 (mt + 2) = some (.inl (z 1, 3000, .inl (mv))) := (f2102 _ (by omega)).trans q2
                  have x2105 : h2100 (mt + 3) = some (.inl (z 1, 8192, .inl (sl))) := (f2102 _ (by omega)).trans q3
                  have x2106 : h2100 (mt + 4) = some (.inl (z 0, 7200, .inl (ft))) := (f2102 _ (by omega)).trans q4
                  have x2107 : h2100 (mt + 5) = some (.inl (z 5, 2, .inr (.inr (.inr (.inr (tk)))))) := (f2102 _ (by omega)).trans q5
                  have x2108 : h2100 (mt + 6) = some (.inl (z 1, 2, .inl (ats))) := (f2102 _ (by omega)).trans q6
                  have x2109 : h2100 (mt + 7) = some (.inl (z 1, 2, .inl (lns))) := (f2102 _ (by omega)).trans q7
                  refine ax_aload_n hC 6 dX4_reach_106 rfl rfl ?_
                  refine ax_getf (v := .int 0) hC e2101 iX4 rfl 14 (by decide) (by decide +kernel) rfl rfl dX4_reach_107 ?_
                  refine ax_if_eq (tgt := 114) hC dX4_reach_110 (by decide) (fun c2110 => ?_) (fun c2110 => ?_)
                  · refine ax_aload_n hC 6 dX4_reach_114 rfl rfl ?_
                    refine ax_getf (v := .ref (mt + 1)) hC e2101 iX4 rfl 6 (by decide) (by decide +kernel) rfl rfl dX4_reach_115 ?_
                    refine ax_aload_n hC 6 dX4_reach_118 rfl rfl ?_
                    refine ax_getf (v := .int (nI fo)) hC e2101 iX4 rfl 0 (by decide) (by decide +kernel) rfl rfl dX4_reach_119 ?_
                    refine ax_lload_n hC 4 dX4_reach_122 rfl rfl ?_
                    have b2111 : vp_in (nI fo) 3000 := vp_in_nI (by omega) (by omega)
                    refine ax_last hC x2103 2 rfl b2111 dX4_reach_123 (fun h2112 e2113 f2114 => ?_)
                    rw [nI_clamp (by omega)] at e2113
                    have x2115 : h2112 (mt + 2) = some (.inl (z 1, 3000, .inl (mv))) := (f2114 _ (by omega)).trans x2104
                    have x2116 : h2112 (mt + 3) = some (.inl (z 1, 8192, .inl (sl))) := (f2114 _ (by omega)).trans x2105
                    have x2117 : h2112 (mt + 4) = some (.inl (z 0, 7200, .inl (ft))) := (f2114 _ (by omega)).trans x2106
                    have x2118 : h2112 (mt + 5) = some (.inl (z 5, 2, .inr (.inr (.inr (.inr (tk)))))) := (f2114 _ (by omega)).trans x2107
                    have x2119 : h2112 (mt + 6) = some (.inl (z 1, 2, .inl (ats))) := (f2114 _ (by omega)).trans x2108
                    have x2120 : h2112 (mt + 7) = some (.inl (z 1, 2, .inl (lns))) := (f2114 _ (by omega)).trans x2109
                    have x2121 : h2112 mt = some (.inr (6, [.int (nI fo), .int 0, .int 0, .int (-2), .int most, .ref cm, .ref (mt + 1), .ref (mt + 2), .ref (mt + 3), .ref (mt + 4), .ref (mt + 5), .ref (mt + 6), .ref (mt + 7), .int nr, .int 0])) := (f2114 _ (by omega)).trans e2101
                    refine ax_aload_n hC 6 dX4_reach_124 rfl rfl ?_
                    refine ax_getf (v := .ref (mt + 2)) hC x2121 iX4 rfl 7 (by decide) (by decide +kernel) rfl rfl dX4_reach_125 ?_
                    refine ax_aload_n hC 6 dX4_reach_128 rfl rfl ?_
                    refine ax_getf (v := .int (nI fo)) hC x2121 iX4 rfl 0 (by decide) (by decide +kernel) rfl rfl dX4_reach_129 ?_
                    refine ax_iload_n hC 5 dX4_reach_132 rfl rfl ?_
                    have b2122 : vp_in (nI fo) 3000 := vp_in_nI (by omega) (by omega)
                    refine ax_iast hC x2115 1 rfl b2122 dX4_reach_133 (fun h2123 e2124 f2125 => ?_)
                    rw [nI_clamp (by omega)] at e2124
                    have x2126 : h2123 (mt + 3) = some (.inl (z 1, 8192, .inl (sl))) := (f2125 _ (by omega)).trans x2116
                    have x2127 : h2123 (mt + 4) = some (.inl (z 0, 7200, .inl (ft))) := (f2125 _ (by omega)).trans x2117
                    have x2128 : h2123 (mt + 5) = some (.inl (z 5, 2, .inr (.inr (.inr (.inr (tk)))))) := (f2125 _ (by omega)).trans x2118
                    have x2129 : h2123 (mt + 6) = some (.inl (z 1, 2, .inl (ats))) := (f2125 _ (by omega)).trans x2119
                    have x2130 : h2123 (mt + 7) = some (.inl (z 1, 2, .inl (lns))) := (f2125 _ (by omega)).trans x2120
                    have x2131 : h2123 mt = some (.inr (6, [.int (nI fo), .int 0, .int 0, .int (-2), .int most, .ref cm, .ref (mt + 1), .ref (mt + 2), .ref (mt + 3), .ref (mt + 4), .ref (mt + 5), .ref (mt + 6), .ref (mt + 7), .int nr, .int 0])) := (f2125 _ (by omega)).trans x2121
                    have x2132 : h2123 (mt + 1) = some (.inl (z 2, 3000, .inr (.inl (vp_updL pl fo (Int64.ofNat (pkN a b l0 l1)))))) := (f2125 _ (by omega)).trans e2113
                    refine ax_aload_n hC 6 dX4_reach_134 rfl rfl ?_
                    refine ax_dup hC dX4_reach_135 rfl ?_
                    refine ax_getf (v := .int (nI fo)) hC x2131 iX4 rfl 0 (by decide) (by decide +kernel) rfl rfl dX4_reach_136 ?_
                    refine ax_iconst (v := 1) hC dX4_reach_139 (by decide) ?_
                    refine ax_iadd hC dX4_reach_140 ?_
                    refine ax_eqi (y := nI (fo + 1)) (nI_1 fo) ?_
                    refine ax_putf (v := .int (nI (fo + 1))) (ty := .int) hC tyX4 x2131 iX4 tyX4_ok nmX4 rfl 0 (by decide) (by decide +kernel) rfl rfl (by decide +kernel) (rfl) rfl (Nat.le_of_ble_eq_true rfl) dX4_reach_141 (fun h2133 e2134 f2135 => ?_)
                    have e2134 : h2133 mt = some (.inr (6, [.int (nI (fo + 1)), .int 0, .int 0, .int (-2), .int most, .ref cm, .ref (mt + 1), .ref (mt + 2), .ref (mt + 3), .ref (mt + 4), .ref (mt + 5), .ref (mt + 6), .ref (mt + 7), .int nr, .int 0])) := e2134
                    have x2136 : h2133 (mt + 3) = some (.inl (z 1, 8192, .inl (sl))) := (f2135 _ (by omega)).trans x2126
                    have x2137 : h2133 (mt + 4) = some (.inl (z 0, 7200, .inl (ft))) := (f2135 _ (by omega)).trans x2127
                    have x2138 : h2133 (mt + 5) = some (.inl (z 5, 2, .inr (.inr (.inr (.inr (tk)))))) := (f2135 _ (by omega)).trans x2128
                    have x2139 : h2133 (mt + 6) = some (.inl (z 1, 2, .inl (ats))) := (f2135 _ (by omega)).trans x2129
                    have x2140 : h2133 (mt + 7) = some (.inl (z 1, 2, .inl (lns))) := (f2135 _ (by omega)).trans x2130
                    have x2141 : h2133 (mt + 1) = some (.inl (z 2, 3000, .inr (.inl (vp_updL pl fo (Int64.ofNat (pkN a b l0 l1)))))) := (f2135 _ (by omega)).trans x2132
                    have x2142 : h2133 (mt + 2) = some (.inl (z 1, 3000, .inl (upd mv fo steps))) := (f2135 _ (by omega)).trans e2124
                    refine ax_aload_n hC 6 dX4_reach_144 rfl rfl ?_
                    refine ax_getf (v := .ref (mt + 3)) hC e2134 iX4 rfl 8 (by decide) (by decide +kernel) rfl rfl dX4_reach_145 ?_
                    refine ax_iload hC 1 dX4_reach_148 rfl ?_
                    refine ax_aload_n hC 6 dX4_reach_150 rfl rfl ?_
                    refine ax_getf (v := .int (nI (fo + 1))) hC e2134 iX4 rfl 0 (by decide) (by decide +kernel) rfl rfl dX4_reach_151 ?_
                    have b2143 : vp_in ((sl1 + (nI t)) &&& 8191) 8192 := i32_and_in _
                    refine ax_iast hC x2136 1 rfl b2143 dX4_reach_154 (fun h2144 e2145 f2146 => ?_)
                    have x2147 : h2144 (mt + 4) = some (.inl (z 0, 7200, .inl (ft))) := (f2146 _ (by omega)).trans x2137
                    have x2148 : h2144 (mt + 5) = some (.inl (z 5, 2, .inr (.inr (.inr (.inr (tk)))))) := (f2146 _ (by omega)).trans x2138
                    have x2149 : h2144 (mt + 6) = some (.inl (z 1, 2, .inl (ats))) := (f2146 _ (by omega)).trans x2139
                    have x2150 : h2144 (mt + 7) = some (.inl (z 1, 2, .inl (lns))) := (f2146 _ (by omega)).trans x2140
                    have x2151 : h2144 (mt + 1) = some (.inl (z 2, 3000, .inr (.inl (vp_updL pl fo (Int64.ofNat (pkN a b l0 l1)))))) := (f2146 _ (by omega)).trans x2141
                    have x2152 : h2144 (mt + 2) = some (.inl (z 1, 3000, .inl (upd mv fo steps))) := (f2146 _ (by omega)).trans x2142
                    have x2153 : h2144 mt = some (.inr (6, [.int (nI (fo + 1)), .int 0, .int 0, .int (-2), .int most, .ref cm, .ref (mt + 1), .ref (mt + 2), .ref (mt + 3), .ref (mt + 4), .ref (mt + 5), .ref (mt + 6), .ref (mt + 7), .int nr, .int 0])) := (f2146 _ (by omega)).trans e2134
                    refine ax_vret hC hr hlocks dX4_reach_155 ?_
                    exact ⟨rfl, fun q hq => ((f2146 q (by omega)).trans ((f2135 q (by omega)).trans ((f2125 q (by omega)).trans ((f2114 q (by omega)).trans (f2102 q (by omega)))))), ⟨_, _, _, _, _, _, _, _, _, _, x2153, x2151, x2152, e2145, x2147, x2148, x2149, x2150, (by omega), (Or.inl rfl), hk0, hk1, hta, htb, hz0, hz1, (PP_add hpl ⟨a, b, l0, l1, rfl, hok⟩), hft⟩⟩
                  · exact absurd c2110 (by decide)
                · refine ax_iconst (v := 1) hC dX4_reach_98 (by decide) ?_
                  refine ax_goto (tgt := 103) hC dX4_reach_99 (by decide) ?_
                  refine ax_putf (v := .int 1) (ty := .boolean) hC tyX4 q0 iX4 tyX4_ok nmX4 rfl 14 (by decide) (by decide +kernel) rfl rfl (by decide +kernel) (rfl) rfl (Nat.le_of_ble_eq_true rfl) dX4_reach_103 (fun h2154 e2155 f2156 => ?_)
                  have e2155 : h2154 mt = some (.inr (6, [.int (nI fo), .int 0, .int 0, .int (-2), .int most, .ref cm, .ref (mt + 1), .ref (mt + 2), .ref (mt + 3), .ref (mt + 4), .ref (mt + 5), .ref (mt + 6), .ref (mt + 7), .int nr, .int 1])) := e2155
                  have x2157 : h2154 (mt + 1) = some (.inl (z 2, 3000, .inr (.inl (pl)))) := (f2156 _ (by omega)).trans q1
                  have x2158 : h2154 (mt + 2) = some (.inl (z 1, 3000, .inl (mv))) := (f2156 _ (by omega)).trans q2
                  have x2159 : h2154 (mt + 3) = some (.inl (z 1, 8192, .inl (sl))) := (f2156 _ (by omega)).trans q3
                  have x2160 : h2154 (mt + 4) = some (.inl (z 0, 7200, .inl (ft))) := (f2156 _ (by omega)).trans q4
                  have x2161 : h2154 (mt + 5) = some (.inl (z 5, 2, .inr (.inr (.inr (.inr (tk)))))) := (f2156 _ (by omega)).trans q5
                  have x2162 : h2154 (mt + 6) = some (.inl (z 1, 2, .inl (ats))) := (f2156 _ (by omega)).trans q6
                  have x2163 : h2154 (mt + 7) = some (.inl (z 1, 2, .inl (lns))) := (f2156 _ (by omega)).trans q7
                  refine ax_aload_n hC 6 dX4_reach_106 rfl rfl ?_
                  refine ax_getf (v := .int 1) hC e2155 iX4 rfl 14 (by decide) (by decide +kernel) rfl rfl dX4_reach_107 ?_
                  refine ax_if_eq (tgt := 114) hC dX4_reach_110 (by decide) (fun c2164 => ?_) (fun c2164 => ?_)
                  · exact absurd c2164 (by decide)
                  · refine ax_vret hC hr hlocks dX4_reach_113 ?_
                    exact ⟨rfl, fun q hq => (f2156 q (by omega)), ⟨_, _, _, _, _, _, _, _, _, _, e2155, x2157, x2158, x2159, x2160, x2161, x2162, x2163, hfo, (Or.inr rfl), hk0, hk1, hta, htb, hz0, hz1, hpl, hft⟩⟩
          · refine ax_aload_n hC 6 dX4_reach_62 rfl rfl ?_
            refine ax_getf (v := .ref (mt + 1)) hC q0 iX4 rfl 6 (by decide) (by decide +kernel) rfl rfl dX4_reach_63 ?_
            refine ax_iload hC 0 dX4_reach_66 rfl ?_
            have b2165 : vp_in ((sl ((sl1 + (nI t)) &&& 8191).toNatClampNeg) - 1) 3000 := vin_aa c2003 c2084 (by first | decide | omega)
            refine ax_lald hC q1 2 rfl b2165 dX4_reach_68 ?_
            refine ax_lload_n hC 4 dX4_reach_69 rfl rfl ?_
            refine ax_lcmp hC dX4_reach_70 ?_
            refine ax_if_ne (tgt := 75) hC dX4_reach_71 (by decide) (fun c2166 => ?_) (fun c2166 => ?_)
            · refine ax_iload hC 0 dX4_reach_75 rfl ?_
              refine ax_if_ge (tgt := 156) hC dX4_reach_77 (by decide) (fun c2167 => ?_) (fun c2167 => ?_)
              · refine ax_iinc (v := (nI t) + 1) hC 2 [(5, .int ((nI t) + 1)), (7, .int ((sl ((sl1 + (nI t)) &&& 8191).toNatClampNeg) - 1)), (6, .int ((sl1 + (nI t)) &&& 8191)), (4, .int sl1), (2, .long (Int64.ofNat (pkN a b l0 l1))), (1, .int steps), (0, .ref mt)] dX4_reach_156 rfl rfl (by decide) rfl ?_
                refine ax_goto (tgt := 19) hC dX4_reach_159 (by decide) ?_
                refine ax_locals [0, 3, 4, 5, 6] (L' := [(5, .int ((nI t) + 1)), (4, .int sl1), (2, .long (Int64.ofNat (pkN a b l0 l1))), (1, .int steps), (0, .ref mt)]) rfl ?_
                rw [show (nI t + 1) = nI (t + 1) from nI_1 t]
                exact ih (t + 1) _ (by omega)
              · refine ax_aload_n hC 6 dX4_reach_80 rfl rfl ?_
                refine ax_aload_n hC 6 dX4_reach_81 rfl rfl ?_
                refine ax_getf (v := .int over) hC q0 iX4 rfl 14 (by decide) (by decide +kernel) rfl rfl dX4_reach_82 ?_
                refine ax_if_ne (tgt := 98) hC dX4_reach_85 (by decide) (fun c2169 => ?_) (fun c2169 => ?_)
                · refine ax_iconst (v := 1) hC dX4_reach_98 (by decide) ?_
                  refine ax_goto (tgt := 103) hC dX4_reach_99 (by decide) ?_
                  refine ax_putf (v := .int 1) (ty := .boolean) hC tyX4 q0 iX4 tyX4_ok nmX4 rfl 14 (by decide) (by decide +kernel) rfl rfl (by decide +kernel) (rfl) rfl (Nat.le_of_ble_eq_true rfl) dX4_reach_103 (fun h2170 e2171 f2172 => ?_)
                  have e2171 : h2170 mt = some (.inr (6, [.int (nI fo), .int 0, .int 0, .int (-2), .int most, .ref cm, .ref (mt + 1), .ref (mt + 2), .ref (mt + 3), .ref (mt + 4), .ref (mt + 5), .ref (mt + 6), .ref (mt + 7), .int nr, .int 1])) := e2171
                  have x2173 : h2170 (mt + 1) = some (.inl (z 2, 3000, .inr (.inl (pl)))) := (f2172 _ (by omega)).trans q1
                  have x2174 : h2170 (mt + 2) = some (.inl (z 1, 3000, .inl (mv))) := (f2172 _ (by omega)).trans q2
                  have x2175 : h2170 (mt + 3) = some (.inl (z 1, 8192, .inl (sl))) := (f2172 _ (by omega)).trans q3
                  have x2176 : h2170 (mt + 4) = some (.inl (z 0, 7200, .inl (ft))) := (f2172 _ (by omega)).trans q4
                  have x2177 : h2170 (mt + 5) = some (.inl (z 5, 2, .inr (.inr (.inr (.inr (tk)))))) := (f2172 _ (by omega)).trans q5
                  have x2178 : h2170 (mt + 6) = some (.inl (z 1, 2, .inl (ats))) := (f2172 _ (by omega)).trans q6
                  have x2179 : h2170 (mt + 7) = some (.inl (z 1, 2, .inl (lns))) := (f2172 _ (by omega)).trans q7
                  refine ax_aload_n hC 6 dX4_reach_106 rfl rfl ?_
                  refine ax_getf (v := .int 1) hC e2171 iX4 rfl 14 (by decide) (by decide +kernel) rfl rfl dX4_reach_107 ?_
                  refine ax_if_eq (tgt := 114) hC dX4_reach_110 (by decide) (fun c2180 => ?_) (fun c2180 => ?_)
                  · exact absurd c2180 (by decide)
                  · refine ax_vret hC hr hlocks dX4_reach_113 ?_
                    exact ⟨rfl, fun q hq => (f2172 q (by omega)), ⟨_, _, _, _, _, _, _, _, _, _, e2171, x2173, x2174, x2175, x2176, x2177, x2178, x2179, hfo, (Or.inr rfl), hk0, hk1, hta, htb, hz0, hz1, hpl, hft⟩⟩
                · refine ax_aload_n hC 6 dX4_reach_88 rfl rfl ?_
                  refine ax_getf (v := .int (nI fo)) hC q0 iX4 rfl 0 (by decide) (by decide +kernel) rfl rfl dX4_reach_89 ?_
                  refine ax_sipush (v := 3000) hC dX4_reach_92 (by decide) ?_
                  refine ax_icmp_lt (tgt := 102) hC dX4_reach_95 (by decide) (fun c2181 => ?_) (fun c2181 => ?_)
                  · have hfo2 : fo < 3000 := by have := (nI_ltL (k := 3000) (by decide) (by omega)).mp c2181; omega
                    refine ax_iconst (v := 0) hC dX4_reach_102 (by decide) ?_
                    refine ax_putf (v := .int 0) (ty := .boolean) hC tyX4 q0 iX4 tyX4_ok nmX4 rfl 14 (by decide) (by decide +kernel) rfl rfl (by decide +kernel) (rfl) rfl (Nat.le_of_ble_eq_true rfl) dX4_reach_103 (fun h2182 e2183 f2184 => ?_)
                    have e2183 : h2182 mt = some (.inr (6, [.int (nI fo), .int 0, .int 0, .int (-2), .int most, .ref cm, .ref (mt + 1), .ref (mt + 2), .ref (mt + 3), .ref (mt + 4), .ref (mt + 5), .ref (mt + 6), .ref (mt + 7), .int nr, .int 0])) := e2183
                    have x2185 : h2182 (mt + 1) = some (.inl (z 2, 3000, .inr (.inl (pl)))) := (f2184 _ (by omega)).trans q1
                    have x2186 : h2182 (mt + 2) = some (.inl (z 1, 3000, .inl (mv))) := (f2184 _ (by omega)).trans q2
                    have x2187 : h2182 (mt + 3) = some (.inl (z 1, 8192, .inl (sl))) := (f2184 _ (by omega)).trans q3
                    have x2188 : h2182 (mt + 4) = some (.inl (z 0, 7200, .inl (ft))) := (f2184 _ (by omega)).trans q4
                    have x2189 : h2182 (mt + 5) = some (.inl (z 5, 2, .inr (.inr (.inr (.inr (tk)))))) := (f2184 _ (by omega)).trans q5
                    have x2190 : h2182 (mt + 6) = some (.inl (z 1, 2, .inl (ats))) := (f2184 _ (by omega)).trans q6
                    have x2191 : h2182 (mt + 7) = some (.inl (z 1, 2, .inl (lns))) := (f2184 _ (by omega)).trans q7
                    refine ax_aload_n hC 6 dX4_reach_106 rfl rfl ?_
                    refine ax_getf (v := .int 0) hC e2183 iX4 rfl 14 (by decide) (by decide +kernel) rfl rfl dX4_reach_107 ?_
                    refine ax_if_eq (tgt := 114) hC dX4_reach_110 (by decide) (fun c2192 => ?_) (fun c2192 => ?_)
                    · refine ax_aload_n hC 6 dX4_reach_114 rfl rfl ?_
                      refine ax_getf (v := .ref (mt + 1)) hC e2183 iX4 rfl 6 (by decide) (by decide +kernel) rfl rfl dX4_reach_115 ?_
                      refine ax_aload_n hC 6 dX4_reach_118 rfl rfl ?_
                      refine ax_getf (v := .int (nI fo)) hC e2183 iX4 rfl 0 (by decide) (by decide +kernel) rfl rfl dX4_reach_119 ?_
                      refine ax_lload_n hC 4 dX4_reach_122 rfl rfl ?_
                      have b2193 : vp_in (nI fo) 3000 := vp_in_nI (by omega) (by omega)
                      refine ax_last hC x2185 2 rfl b2193 dX4_reach_123 (fun h2194 e2195 f2196 => ?_)
                      rw [nI_clamp (by omega)] at e2195
                      have x2197 : h2194 (mt + 2) = some (.inl (z 1, 3000, .inl (mv))) := (f2196 _ (by omega)).trans x2186
                      have x2198 : h2194 (mt + 3) = some (.inl (z 1, 8192, .inl (sl))) := (f2196 _ (by omega)).trans x2187
                      have x2199 : h2194 (mt + 4) = some (.inl (z 0, 7200, .inl (ft))) := (f2196 _ (by omega)).trans x2188
                      have x2200 : h2194 (mt + 5) = some (.inl (z 5, 2, .inr (.inr (.inr (.inr (tk)))))) := (f2196 _ (by omega)).trans x2189
                      have x2201 : h2194 (mt + 6) = some (.inl (z 1, 2, .inl (ats))) := (f2196 _ (by omega)).trans x2190
                      have x2202 : h2194 (mt + 7) = some (.inl (z 1, 2, .inl (lns))) := (f2196 _ (by omega)).trans x2191
                      have x2203 : h2194 mt = some (.inr (6, [.int (nI fo), .int 0, .int 0, .int (-2), .int most, .ref cm, .ref (mt + 1), .ref (mt + 2), .ref (mt + 3), .ref (mt + 4), .ref (mt + 5), .ref (mt + 6), .ref (mt + 7), .int nr, .int 0])) := (f2196 _ (by omega)).trans e2183
                      refine ax_aload_n hC 6 dX4_reach_124 rfl rfl ?_
                      refine ax_getf (v := .ref (mt + 2)) hC x2203 iX4 rfl 7 (by decide) (by decide +kernel) rfl rfl dX4_reach_125 ?_
                      refine ax_aload_n hC 6 dX4_reach_128 rfl rfl ?_
                      refine ax_getf (v := .int (nI fo)) hC x2203 iX4 rfl 0 (by decide) (by decide +kernel) rfl rfl dX4_reach_129 ?_
                      refine ax_iload_n hC 5 dX4_reach_132 rfl rfl ?_
                      have b2204 : vp_in (nI fo) 3000 := vp_in_nI (by omega) (by omega)
                      refine ax_iast hC x2197 1 rfl b2204 dX4_reach_133 (fun h2205 e2206 f2207 => ?_)
                      rw [nI_clamp (by omega)] at e2206
                      have x2208 : h2205 (mt + 3) = some (.inl (z 1, 8192, .inl (sl))) := (f2207 _ (by omega)).trans x2198
                      have x2209 : h2205 (mt + 4) = some (.inl (z 0, 7200, .inl (ft))) := (f2207 _ (by omega)).trans x2199
                      have x2210 : h2205 (mt + 5) = some (.inl (z 5, 2, .inr (.inr (.inr (.inr (tk)))))) := (f2207 _ (by omega)).trans x2200
                      have x2211 : h2205 (mt + 6) = some (.inl (z 1, 2, .inl (ats))) := (f2207 _ (by omega)).trans x2201
                      have x2212 : h2205 (mt + 7) = some (.inl (z 1, 2, .inl (lns))) := (f2207 _ (by omega)).trans x2202
                      have x2213 : h2205 mt = some (.inr (6, [.int (nI fo), .int 0, .int 0, .int (-2), .int most, .ref cm, .ref (mt + 1), .ref (mt + 2), .ref (mt + 3), .ref (mt + 4), .ref (mt + 5), .ref (mt + 6), .ref (mt + 7), .int nr, .int 0])) := (f2207 _ (by omega)).trans x2203
                      have x2214 : h2205 (mt + 1) = some (.inl (z 2, 3000, .inr (.inl (vp_updL pl fo (Int64.ofNat (pkN a b l0 l1)))))) := (f2207 _ (by omega)).trans e2195
                      refine ax_aload_n hC 6 dX4_reach_134 rfl rfl ?_
                      refine ax_dup hC dX4_reach_135 rfl ?_
                      refine ax_getf (v := .int (nI fo)) hC x2213 iX4 rfl 0 (by decide) (by decide +kernel) rfl rfl dX4_reach_136 ?_
                      refine ax_iconst (v := 1) hC dX4_reach_139 (by decide) ?_
                      refine ax_iadd hC dX4_reach_140 ?_
                      refine ax_eqi (y := nI (fo + 1)) (nI_1 fo) ?_
                      refine ax_putf (v := .int (nI (fo + 1))) (ty := .int) hC tyX4 x2213 iX4 tyX4_ok nmX4 rfl 0 (by decide) (by decide +kernel) rfl rfl (by decide +kernel) (rfl) rfl (Nat.le_of_ble_eq_true rfl) dX4_reach_141 (fun h2215 e2216 f2217 => ?_)
                      have e2216 : h2215 mt = some (.inr (6, [.int (nI (fo + 1)), .int 0, .int 0, .int (-2), .int most, .ref cm, .ref (mt + 1), .ref (mt + 2), .ref (mt + 3), .ref (mt + 4), .ref (mt + 5), .ref (mt + 6), .ref (mt + 7), .int nr, .int 0])) := e2216
                      have x2218 : h2215 (mt + 3) = some (.inl (z 1, 8192, .inl (sl))) := (f2217 _ (by omega)).trans x2208
                      have x2219 : h2215 (mt + 4) = some (.inl (z 0, 7200, .inl (ft))) := (f2217 _ (by omega)).trans x2209
                      have x2220 : h2215 (mt + 5) = some (.inl (z 5, 2, .inr (.inr (.inr (.inr (tk)))))) := (f2217 _ (by omega)).trans x2210
                      have x2221 : h2215 (mt + 6) = some (.inl (z 1, 2, .inl (ats))) := (f2217 _ (by omega)).trans x2211
                      have x2222 : h2215 (mt + 7) = some (.inl (z 1, 2, .inl (lns))) := (f2217 _ (by omega)).trans x2212
                      have x2223 : h2215 (mt + 1) = some (.inl (z 2, 3000, .inr (.inl (vp_updL pl fo (Int64.ofNat (pkN a b l0 l1)))))) := (f2217 _ (by omega)).trans x2214
                      have x2224 : h2215 (mt + 2) = some (.inl (z 1, 3000, .inl (upd mv fo steps))) := (f2217 _ (by omega)).trans e2206
                      refine ax_aload_n hC 6 dX4_reach_144 rfl rfl ?_
                      refine ax_getf (v := .ref (mt + 3)) hC e2216 iX4 rfl 8 (by decide) (by decide +kernel) rfl rfl dX4_reach_145 ?_
                      refine ax_iload hC 1 dX4_reach_148 rfl ?_
                      refine ax_aload_n hC 6 dX4_reach_150 rfl rfl ?_
                      refine ax_getf (v := .int (nI (fo + 1))) hC e2216 iX4 rfl 0 (by decide) (by decide +kernel) rfl rfl dX4_reach_151 ?_
                      have b2225 : vp_in ((sl1 + (nI t)) &&& 8191) 8192 := i32_and_in _
                      refine ax_iast hC x2218 1 rfl b2225 dX4_reach_154 (fun h2226 e2227 f2228 => ?_)
                      have x2229 : h2226 (mt + 4) = some (.inl (z 0, 7200, .inl (ft))) := (f2228 _ (by omega)).trans x2219
                      have x2230 : h2226 (mt + 5) = some (.inl (z 5, 2, .inr (.inr (.inr (.inr (tk)))))) := (f2228 _ (by omega)).trans x2220
                      have x2231 : h2226 (mt + 6) = some (.inl (z 1, 2, .inl (ats))) := (f2228 _ (by omega)).trans x2221
                      have x2232 : h2226 (mt + 7) = some (.inl (z 1, 2, .inl (lns))) := (f2228 _ (by omega)).trans x2222
                      have x2233 : h2226 (mt + 1) = some (.inl (z 2, 3000, .inr (.inl (vp_updL pl fo (Int64.ofNat (pkN a b l0 l1)))))) := (f2228 _ (by omega)).trans x2223
                      have x2234 : h2226 (mt + 2) = some (.inl (z 1, 3000, .inl (upd mv fo steps))) := (f2228 _ (by omega)).trans x2224
                      have x2235 : h2226 mt = some (.inr (6, [.int (nI (fo + 1)), .int 0, .int 0, .int (-2), .int most, .ref cm, .ref (mt + 1), .ref (mt + 2), .ref (mt + 3), .ref (mt + 4), .ref (mt + 5), .ref (mt + 6), .ref (mt + 7), .int nr, .int 0])) := (f2228 _ (by omega)).trans e2216
                      refine ax_vret hC hr hlocks dX4_reach_155 ?_
                      exact ⟨rfl, fun q hq => ((f2228 q (by omega)).trans ((f2217 q (by omega)).trans ((f2207 q (by omega)).trans ((f2196 q (by omega)).trans (f2184 q (by omega)))))), ⟨_, _, _, _, _, _, _, _, _, _, x2235, x2233, x2234, e2227, x2229, x2230, x2231, x2232, (by omega), (Or.inl rfl), hk0, hk1, hta, htb, hz0, hz1, (PP_add hpl ⟨a, b, l0, l1, rfl, hok⟩), hft⟩⟩
                    · exact absurd c2192 (by decide)
                  · refine ax_iconst (v := 1) hC dX4_reach_98 (by decide) ?_
                    refine ax_goto (tgt := 103) hC dX4_reach_99 (by decide) ?_
                    refine ax_putf (v := .int 1) (ty := .boolean) hC tyX4 q0 iX4 tyX4_ok nmX4 rfl 14 (by decide) (by decide +kernel) rfl rfl (by decide +kernel) (rfl) rfl (Nat.le_of_ble_eq_true rfl) dX4_reach_103 (fun h2236 e2237 f2238 => ?_)
                    have e2237 : h2236 mt = some (.inr (6, [.int (nI fo), .int 0, .int 0, .int (-2), .int most, .ref cm, .ref (mt + 1), .ref (mt + 2), .ref (mt + 3), .ref (mt + 4), .ref (mt + 5), .ref (mt + 6), .ref (mt + 7), .int nr, .int 1])) := e2237
                    have x2239 : h2236 (mt + 1) = some (.inl (z 2, 3000, .inr (.inl (pl)))) := (f2238 _ (by omega)).trans q1
                    have x2240 : h2236 (mt + 2) = some (.inl (z 1, 3000, .inl (mv))) := (f2238 _ (by omega)).trans q2
                    have x2241 : h2236 (mt + 3) = some (.inl (z 1, 8192, .inl (sl))) := (f2238 _ (by omega)).trans q3
                    have x2242 : h2236 (mt + 4) = some (.inl (z 0, 7200, .inl (ft))) := (f2238 _ (by omega)).trans q4
                    have x2243 : h2236 (mt + 5) = some (.inl (z 5, 2, .inr (.inr (.inr (.inr (tk)))))) := (f2238 _ (by omega)).trans q5
                    have x2244 : h2236 (mt + 6) = some (.inl (z 1, 2, .inl (ats))) := (f2238 _ (by omega)).trans q6
                    have x2245 : h2236 (mt + 7) = some (.inl (z 1, 2, .inl (lns))) := (f2238 _ (by omega)).trans q7
                    refine ax_aload_n hC 6 dX4_reach_106 rfl rfl ?_
                    refine ax_getf (v := .int 1) hC e2237 iX4 rfl 14 (by decide) (by decide +kernel) rfl rfl dX4_reach_107 ?_
                    refine ax_if_eq (tgt := 114) hC dX4_reach_110 (by decide) (fun c2246 => ?_) (fun c2246 => ?_)
                    · exact absurd c2246 (by decide)
                    · refine ax_vret hC hr hlocks dX4_reach_113 ?_
                      exact ⟨rfl, fun q hq => (f2238 q (by omega)), ⟨_, _, _, _, _, _, _, _, _, _, e2237, x2239, x2240, x2241, x2242, x2243, x2244, x2245, hfo, (Or.inr rfl), hk0, hk1, hta, htb, hz0, hz1, hpl, hft⟩⟩
            · refine ax_vret hC hr hlocks dX4_reach_74 ?_
              exact ⟨rfl, fun q hq => rfl, ⟨_, _, _, _, _, _, _, _, _, _, q0, q1, q2, q3, q4, q5, q6, q7, hfo, hov, hk0, hk1, hta, htb, hz0, hz1, hpl, hft⟩⟩
  refine ax_aload_n hC 0 dX4_reach_0 rfl rfl ?_
  refine ax_callVl (st := []) hC [] q0 rfl (c_X4_pack l D z B lo _ h mt cm aF aG nr TF TG W a b l0 l1 hX ha hb hl0 hl1) (cwV 0 hC.1.2.2.2.2 gX4_reach_X4_pack rfl rfl rfl (by decide +kernel) ⟨Nat.le_of_ble_eq_true rfl, Nat.le_of_ble_eq_true rfl⟩) rfl rfl (Nat.le_of_ble_eq_true rfl) dX4_reach_1 ⟨Nat.le_of_ble_eq_true rfl, Nat.le_of_ble_eq_true rfl⟩ (fun r1 hi2 h3 hp4 => ?_)
  obtain ⟨er, ei, eh⟩ := hp4
  subst er
  replace ei := ei.symm
  subst ei
  replace eh := eh.symm
  subst eh
  refine ax_lstore_n hC [(2, .long (Int64.ofNat (pkN a b l0 l1))), (0, .ref mt), (1, .int steps)] dX4_reach_4 rfl (by decide) rfl ?_
  refine ax_lload_n hC 0 dX4_reach_5 rfl rfl ?_
  refine ax_ldc2 (v := (-7046029254386353131)) hC (by decide +kernel) dX4_reach_6 ?_
  refine ax_lmul hC dX4_reach_9 ?_
  refine ax_bipush (v := 51) hC dX4_reach_10 (by decide) ?_
  refine ax_lushr hC dX4_reach_12 rfl ?_
  refine ax_l2i hC dX4_reach_13 rfl ?_
  refine ax_istore hC [(4, .int (((((Int64.ofNat (pkN a b l0 l1)) * (-7046029254386353131)).toUInt64 >>> ((51 : Int32).toInt64.toUInt64 &&& Int64.toUInt64 63)).toInt64).toInt32)), (2, .long (Int64.ofNat (pkN a b l0 l1))), (0, .ref mt), (1, .int steps)] dX4_reach_14 (by decide) rfl ?_
  refine ax_iconst (v := 0) hC dX4_reach_16 (by decide) ?_
  refine ax_istore hC [(5, .int 0), (4, .int (((((Int64.ofNat (pkN a b l0 l1)) * (-7046029254386353131)).toUInt64 >>> ((51 : Int32).toInt64.toUInt64 &&& Int64.toUInt64 63)).toInt64).toInt32)), (2, .long (Int64.ofNat (pkN a b l0 l1))), (0, .ref mt), (1, .int steps)] dX4_reach_17 (by decide) rfl ?_
  refine ax_locals [0, 1, 2, 4, 3] (L' := [(5, .int 0), (4, .int (((((Int64.ofNat (pkN a b l0 l1)) * (-7046029254386353131)).toUInt64 >>> ((51 : Int32).toInt64.toUInt64 &&& Int64.toUInt64 63)).toInt64).toInt32)), (2, .long (Int64.ofNat (pkN a b l0 l1))), (1, .int steps), (0, .ref mt)]) rfl ?_
  exact LP 8192 0 _ (by omega)

abbrev rmX4_send : Room := { frames := 2, cells := 0, slots := 0, locals := 49 }
set_option maxRecDepth 100000 in
set_option maxHeartbeats 4000000 in
theorem c_X4_send_0 (l : Launch) (D : va_G) (z : Nat → ClassId) (B : Heap) (lo hi : Nat) (h : Nat → Option va_E) (mt cm aF aG : Nat) (nr : Int32) (TF TG : PT) (W : Nat → Nat → Prop) (a b l0 l1 : Nat) (an lw x : Nat) (steps : Int32) (hX : MtX z h mt cm aF aG nr TF TG W a b l0 l1) (hok : PlaceOK TF TG W an b lw l1) (hln : lw = if l0 = 0 then x else l0 + 128 * x) (hsm : l0 < 128) (hb1 : an < 64) (hb2 : b < 64) (hb3 : lw < 16384) (hb4 : l1 < 16384) : Met l yX4_send wsX4_send rmX4_send (KP D vwCl B lo hi h (ty6 z) [.ref mt, .int 0, .int (nI an), .int (nI x), .int steps]) (KQv D vwCl B lo (ty6 z) (fun hi' h' => hi' = hi ∧ (∀ q, (q < mt ∨ mt + 8 ≤ q) → h' q = h q) ∧ MtX z h' mt cm aF aG nr TF TG W a b l0 l1)) 0 0 (fun q => lo ≤ q) := by
  obtain ⟨fo, most, over, pl, mv, sl, ft, tk, ats, lns, q0, q1, q2, q3, q4, q5, q6, q7, hfo, hov, hk0, hk1, hta, htb, hz0, hz1, hpl, hft⟩ := hX
  refine ax_met (by decide) rfl (Nat.le_of_ble_eq_true rfl) (L0 := [(0, .ref mt), (1, .int 0), (2, .int (nI an)), (3, .int (nI x)), (4, .int steps)]) rfl ?_
  intro p e s m args below meth c hC hr hlocks hnm hargs
  have iX4 : ∀ w ∈ u_ws RX4 TX4 15, w ∈ wsX4_send := by decide +kernel
  refine ax_aload_n hC 0 dX4_send_0 rfl rfl ?_
  refine ax_getf (v := .ref (mt + 6)) hC q0 iX4 rfl 11 (by decide) (by decide +kernel) rfl rfl dX4_send_1 ?_
  refine ax_iload_n hC 1 dX4_send_4 rfl rfl ?_
  refine ax_iconst (v := 1) hC dX4_send_5 (by decide) ?_
  refine ax_iand hC dX4_send_6 ?_
  refine ax_eqi (y := 0) (by decide) ?_
  have b1 : vp_in 0 2 := vp_in_iff.mpr (by decide)
  refine ax_iald hC q6 1 rfl b1 dX4_send_7 ?_
  refine ax_eqi (y := nI a) (hta) ?_
  refine ax_istore hC [(5, .int (nI a)), (0, .ref mt), (1, .int 0), (2, .int (nI an)), (3, .int (nI x)), (4, .int steps)] dX4_send_8 (by decide) rfl ?_
  refine ax_aload_n hC 1 dX4_send_10 rfl rfl ?_
  refine ax_getf (v := .ref (mt + 7)) hC q0 iX4 rfl 12 (by decide) (by decide +kernel) rfl rfl dX4_send_11 ?_
  refine ax_iload_n hC 2 dX4_send_14 rfl rfl ?_
  refine ax_iconst (v := 1) hC dX4_send_15 (by decide) ?_
  refine ax_iand hC dX4_send_16 ?_
  refine ax_eqi (y := 0) (by decide) ?_
  have b2 : vp_in 0 2 := vp_in_iff.mpr (by decide)
  refine ax_iald hC q7 1 rfl b2 dX4_send_17 ?_
  refine ax_eqi (y := nI l0) (hz0) ?_
  refine ax_istore hC [(6, .int (nI l0)), (5, .int (nI a)), (0, .ref mt), (1, .int 0), (2, .int (nI an)), (3, .int (nI x)), (4, .int steps)] dX4_send_18 (by decide) rfl ?_
  refine ax_aload_n hC 2 dX4_send_20 rfl rfl ?_
  refine ax_getf (v := .ref (mt + 6)) hC q0 iX4 rfl 11 (by decide) (by decide +kernel) rfl rfl dX4_send_21 ?_
  refine ax_iload_n hC 3 dX4_send_24 rfl rfl ?_
  refine ax_iconst (v := 1) hC dX4_send_25 (by decide) ?_
  refine ax_iand hC dX4_send_26 ?_
  refine ax_eqi (y := 0) (by decide) ?_
  refine ax_iload_n hC 4 dX4_send_27 rfl rfl ?_
  have b3 : vp_in 0 2 := vp_in_iff.mpr (by decide)
  refine ax_iast hC q6 1 rfl b3 dX4_send_28 (fun h4 e5 f6 => ?_)
  have x7 : h4 mt = some (.inr (6, [.int (nI fo), .int 0, .int 0, .int (-2), .int most, .ref cm, .ref (mt + 1), .ref (mt + 2), .ref (mt + 3), .ref (mt + 4), .ref (mt + 5), .ref (mt + 6), .ref (mt + 7), .int nr, .int over])) := (f6 _ (by omega)).trans q0
  have x8 : h4 (mt + 1) = some (.inl (z 2, 3000, .inr (.inl (pl)))) := (f6 _ (by omega)).trans q1
  have x9 : h4 (mt + 2) = some (.inl (z 1, 3000, .inl (mv))) := (f6 _ (by omega)).trans q2
  have x10 : h4 (mt + 3) = some (.inl (z 1, 8192, .inl (sl))) := (f6 _ (by omega)).trans q3
  have x11 : h4 (mt + 4) = some (.inl (z 0, 7200, .inl (ft))) := (f6 _ (by omega)).trans q4
  have x12 : h4 (mt + 5) = some (.inl (z 5, 2, .inr (.inr (.inr (.inr (tk)))))) := (f6 _ (by omega)).trans q5
  have x13 : h4 (mt + 7) = some (.inl (z 1, 2, .inl (lns))) := (f6 _ (by omega)).trans q7
  refine ax_aload_n hC 2 dX4_send_29 rfl rfl ?_
  refine ax_getf (v := .ref (mt + 7)) hC x7 iX4 rfl 12 (by decide) (by decide +kernel) rfl rfl dX4_send_30 ?_
  refine ax_iload_n hC 3 dX4_send_33 rfl rfl ?_
  refine ax_iconst (v := 1) hC dX4_send_34 (by decide) ?_
  refine ax_iand hC dX4_send_35 ?_
  refine ax_eqi (y := 0) (by decide) ?_
  refine ax_iload hC 0 dX4_send_36 rfl ?_
  refine ax_if_ne (tgt := 45) hC dX4_send_38 (by decide) (fun c14 => ?_) (fun c14 => ?_)
  · refine ax_iload hC 0 dX4_send_45 rfl ?_
    refine ax_iload_n hC 5 dX4_send_47 rfl rfl ?_
    refine ax_bipush (v := 7) hC dX4_send_48 (by decide) ?_
    refine ax_ishl hC dX4_send_50 ?_
    refine ax_eqi (y := nI (x * 128)) (i32_shl7 x) ?_
    refine ax_ior hC dX4_send_51 ?_
    refine ax_eqi (y := nI lw) ((i32_or7 l0 x hsm).trans (congrArg nI (by rw [hln, if_neg (fun q9 => c14 (by rw [q9]; rfl))]))) ?_
    have b15 : vp_in 0 2 := vp_in_iff.mpr (by decide)
    refine ax_iast hC x13 1 rfl b15 dX4_send_52 (fun h16 e17 f18 => ?_)
    have x19 : h16 mt = some (.inr (6, [.int (nI fo), .int 0, .int 0, .int (-2), .int most, .ref cm, .ref (mt + 1), .ref (mt + 2), .ref (mt + 3), .ref (mt + 4), .ref (mt + 5), .ref (mt + 6), .ref (mt + 7), .int nr, .int over])) := (f18 _ (by omega)).trans x7
    have x20 : h16 (mt + 1) = some (.inl (z 2, 3000, .inr (.inl (pl)))) := (f18 _ (by omega)).trans x8
    have x21 : h16 (mt + 2) = some (.inl (z 1, 3000, .inl (mv))) := (f18 _ (by omega)).trans x9
    have x22 : h16 (mt + 3) = some (.inl (z 1, 8192, .inl (sl))) := (f18 _ (by omega)).trans x10
    have x23 : h16 (mt + 4) = some (.inl (z 0, 7200, .inl (ft))) := (f18 _ (by omega)).trans x11
    have x24 : h16 (mt + 5) = some (.inl (z 5, 2, .inr (.inr (.inr (.inr (tk)))))) := (f18 _ (by omega)).trans x12
    have x25 : h16 (mt + 6) = some (.inl (z 1, 2, .inl (upd ats (0 : Int32).toNatClampNeg (nI an)))) := (f18 _ (by omega)).trans e5
    refine ax_aload_n hC 2 dX4_send_53 rfl rfl ?_
    refine ax_iload hC 6 dX4_send_54 rfl ?_
    refine ax_iconst (v := 1) hC dX4_send_56 (by decide) ?_
    refine ax_iadd hC dX4_send_57 ?_
    have hX26 : MtX z h16 mt cm aF aG nr TF TG W an b lw l1 := ⟨_, _, _, _, _, _, _, _, _, _, x19, x20, x21, x22, x23, x24, x25, e17, hfo, hov, hk0, hk1, (ua00 _ _), ((ua01 _ _).trans htb), (ua00 _ _), ((ua01 _ _).trans hz1), hpl, hft⟩
    refine ax_callVv (st := []) hC [.int (steps + 1)] x19 rfl (c_X4_reach l D z B lo _ h16 mt cm aF aG nr TF TG W an b lw l1 (steps + 1) hX26 hok hb1 hb2 hb3 hb4) (cwV 1 hC.1.2.2.2.2 gX4_send_X4_reach rfl rfl rfl (by decide +kernel) ⟨Nat.le_of_ble_eq_true rfl, Nat.le_of_ble_eq_true rfl⟩) rfl rfl (Nat.le_of_ble_eq_true rfl) dX4_send_58 ⟨Nat.le_of_ble_eq_true rfl, Nat.le_of_ble_eq_true rfl⟩ (fun hi27 h28 hp29 => ?_)
    obtain ⟨ei30, fr31, hX32⟩ := hp29
    replace ei30 := ei30.symm
    subst ei30
    obtain ⟨fo_33, most_33, over_33, pl_33, mv_33, sl_33, ft_33, tk_33, ats_33, lns_33, q0_33, q1_33, q2_33, q3_33, q4_33, q5_33, q6_33, q7_33, hfo_33, hov_33, hk0_33, hk1_33, hta_33, htb_33, hz0_33, hz1_33, hpl_33, hft_33⟩ := id hX32
    refine ax_aload_n hC 2 dX4_send_61 rfl rfl ?_
    refine ax_getf (v := .ref (mt + 6)) hC q0_33 iX4 rfl 11 (by decide) (by decide +kernel) rfl rfl dX4_send_62 ?_
    refine ax_iload_n hC 3 dX4_send_65 rfl rfl ?_
    refine ax_iconst (v := 1) hC dX4_send_66 (by decide) ?_
    refine ax_iand hC dX4_send_67 ?_
    refine ax_eqi (y := 0) (by decide) ?_
    refine ax_iload hC 1 dX4_send_68 rfl ?_
    have b34 : vp_in 0 2 := vp_in_iff.mpr (by decide)
    refine ax_iast hC q6_33 1 rfl b34 dX4_send_70 (fun h35 e36 f37 => ?_)
    have x38 : h35 mt = some (.inr (6, [.int (nI fo_33), .int 0, .int 0, .int (-2), .int most_33, .ref cm, .ref (mt + 1), .ref (mt + 2), .ref (mt + 3), .ref (mt + 4), .ref (mt + 5), .ref (mt + 6), .ref (mt + 7), .int nr, .int over_33])) := (f37 _ (by omega)).trans q0_33
    have x39 : h35 (mt + 1) = some (.inl (z 2, 3000, .inr (.inl (pl_33)))) := (f37 _ (by omega)).trans q1_33
    have x40 : h35 (mt + 2) = some (.inl (z 1, 3000, .inl (mv_33))) := (f37 _ (by omega)).trans q2_33
    have x41 : h35 (mt + 3) = some (.inl (z 1, 8192, .inl (sl_33))) := (f37 _ (by omega)).trans q3_33
    have x42 : h35 (mt + 4) = some (.inl (z 0, 7200, .inl (ft_33))) := (f37 _ (by omega)).trans q4_33
    have x43 : h35 (mt + 5) = some (.inl (z 5, 2, .inr (.inr (.inr (.inr (tk_33)))))) := (f37 _ (by omega)).trans q5_33
    have x44 : h35 (mt + 7) = some (.inl (z 1, 2, .inl (lns_33))) := (f37 _ (by omega)).trans q7_33
    refine ax_aload_n hC 2 dX4_send_71 rfl rfl ?_
    refine ax_getf (v := .ref (mt + 7)) hC x38 iX4 rfl 12 (by decide) (by decide +kernel) rfl rfl dX4_send_72 ?_
    refine ax_iload_n hC 3 dX4_send_75 rfl rfl ?_
    refine ax_iconst (v := 1) hC dX4_send_76 (by decide) ?_
    refine ax_iand hC dX4_send_77 ?_
    refine ax_eqi (y := 0) (by decide) ?_
    refine ax_iload hC 0 dX4_send_78 rfl ?_
    have b45 : vp_in 0 2 := vp_in_iff.mpr (by decide)
    refine ax_iast hC x44 1 rfl b45 dX4_send_80 (fun h46 e47 f48 => ?_)
    have x49 : h46 mt = some (.inr (6, [.int (nI fo_33), .int 0, .int 0, .int (-2), .int most_33, .ref cm, .ref (mt + 1), .ref (mt + 2), .ref (mt + 3), .ref (mt + 4), .ref (mt + 5), .ref (mt + 6), .ref (mt + 7), .int nr, .int over_33])) := (f48 _ (by omega)).trans x38
    have x50 : h46 (mt + 1) = some (.inl (z 2, 3000, .inr (.inl (pl_33)))) := (f48 _ (by omega)).trans x39
    have x51 : h46 (mt + 2) = some (.inl (z 1, 3000, .inl (mv_33))) := (f48 _ (by omega)).trans x40
    have x52 : h46 (mt + 3) = some (.inl (z 1, 8192, .inl (sl_33))) := (f48 _ (by omega)).trans x41
    have x53 : h46 (mt + 4) = some (.inl (z 0, 7200, .inl (ft_33))) := (f48 _ (by omega)).trans x42
    have x54 : h46 (mt + 5) = some (.inl (z 5, 2, .inr (.inr (.inr (.inr (tk_33)))))) := (f48 _ (by omega)).trans x43
    have x55 : h46 (mt + 6) = some (.inl (z 1, 2, .inl (upd ats_33 (0 : Int32).toNatClampNeg (nI a)))) := (f48 _ (by omega)).trans e36
    refine ax_vret hC hr hlocks dX4_send_81 ?_
    exact ⟨rfl, fun q hq => ((f48 q (by omega)).trans ((f37 q (by omega)).trans ((fr31 q (by omega)).trans ((f18 q (by omega)).trans (f6 q (by omega)))))), ⟨_, _, _, _, _, _, _, _, _, _, x49, x50, x51, x52, x53, x54, x55, e47, hfo_33, hov_33, hk0_33, hk1_33, (ua00 _ _), ((ua01 _ _).trans htb_33), (ua00 _ _), ((ua01 _ _).trans hz1_33), hpl_33, hft_33⟩⟩
  · refine ax_iload_n hC 5 dX4_send_41 rfl rfl ?_
    refine ax_goto (tgt := 52) hC dX4_send_42 (by decide) ?_
    have hz9 := (nI_eq (a := l0) (b := 0) (by omega) (by decide)).mp c14
    refine ax_eqi (y := nI lw) (congrArg nI (by rw [hln, if_pos hz9])) ?_
    have b56 : vp_in 0 2 := vp_in_iff.mpr (by decide)
    refine ax_iast hC x13 1 rfl b56 dX4_send_52 (fun h57 e58 f59 => ?_)
    have x60 : h57 mt = some (.inr (6, [.int (nI fo), .int 0, .int 0, .int (-2), .int most, .ref cm, .ref (mt + 1), .ref (mt + 2), .ref (mt + 3), .ref (mt + 4), .ref (mt + 5), .ref (mt + 6), .ref (mt + 7), .int nr, .int over])) := (f59 _ (by omega)).trans x7
    have x61 : h57 (mt + 1) = some (.inl (z 2, 3000, .inr (.inl (pl)))) := (f59 _ (by omega)).trans x8
    have x62 : h57 (mt + 2) = some (.inl (z 1, 3000, .inl (mv))) := (f59 _ (by omega)).trans x9
    have x63 : h57 (mt + 3) = some (.inl (z 1, 8192, .inl (sl))) := (f59 _ (by omega)).trans x10
    have x64 : h57 (mt + 4) = some (.inl (z 0, 7200, .inl (ft))) := (f59 _ (by omega)).trans x11
    have x65 : h57 (mt + 5) = some (.inl (z 5, 2, .inr (.inr (.inr (.inr (tk)))))) := (f59 _ (by omega)).trans x12
    have x66 : h57 (mt + 6) = some (.inl (z 1, 2, .inl (upd ats (0 : Int32).toNatClampNeg (nI an)))) := (f59 _ (by omega)).trans e5
    refine ax_aload_n hC 2 dX4_send_53 rfl rfl ?_
    refine ax_iload hC 6 dX4_send_54 rfl ?_
    refine ax_iconst (v := 1) hC dX4_send_56 (by decide) ?_
    refine ax_iadd hC dX4_send_57 ?_
    have hX67 : MtX z h57 mt cm aF aG nr TF TG W an b lw l1 := ⟨_, _, _, _, _, _, _, _, _, _, x60, x61, x62, x63, x64, x65, x66, e58, hfo, hov, hk0, hk1, (ua00 _ _), ((ua01 _ _).trans htb), (ua00 _ _), ((ua01 _ _).trans hz1), hpl, hft⟩
    refine ax_callVv (st := []) hC [.int (steps + 1)] x60 rfl (c_X4_reach l D z B lo _ h57 mt cm aF aG nr TF TG W an b lw l1 (steps + 1) hX67 hok hb1 hb2 hb3 hb4) (cwV 1 hC.1.2.2.2.2 gX4_send_X4_reach rfl rfl rfl (by decide +kernel) ⟨Nat.le_of_ble_eq_true rfl, Nat.le_of_ble_eq_true rfl⟩) rfl rfl (Nat.le_of_ble_eq_true rfl) dX4_send_58 ⟨Nat.le_of_ble_eq_true rfl, Nat.le_of_ble_eq_true rfl⟩ (fun hi68 h69 hp70 => ?_)
    obtain ⟨ei71, fr72, hX73⟩ := hp70
    replace ei71 := ei71.symm
    subst ei71
    obtain ⟨fo_74, most_74, over_74, pl_74, mv_74, sl_74, ft_74, tk_74, ats_74, lns_74, q0_74, q1_74, q2_74, q3_74, q4_74, q5_74, q6_74, q7_74, hfo_74, hov_74, hk0_74, hk1_74, hta_74, htb_74, hz0_74, hz1_74, hpl_74, hft_74⟩ := id hX73
    refine ax_aload_n hC 2 dX4_send_61 rfl rfl ?_
    refine ax_getf (v := .ref (mt + 6)) hC q0_74 iX4 rfl 11 (by decide) (by decide +kernel) rfl rfl dX4_send_62 ?_
    refine ax_iload_n hC 3 dX4_send_65 rfl rfl ?_
    refine ax_iconst (v := 1) hC dX4_send_66 (by decide) ?_
    refine ax_iand hC dX4_send_67 ?_
    refine ax_eqi (y := 0) (by decide) ?_
    refine ax_iload hC 1 dX4_send_68 rfl ?_
    have b75 : vp_in 0 2 := vp_in_iff.mpr (by decide)
    refine ax_iast hC q6_74 1 rfl b75 dX4_send_70 (fun h76 e77 f78 => ?_)
    have x79 : h76 mt = some (.inr (6, [.int (nI fo_74), .int 0, .int 0, .int (-2), .int most_74, .ref cm, .ref (mt + 1), .ref (mt + 2), .ref (mt + 3), .ref (mt + 4), .ref (mt + 5), .ref (mt + 6), .ref (mt + 7), .int nr, .int over_74])) := (f78 _ (by omega)).trans q0_74
    have x80 : h76 (mt + 1) = some (.inl (z 2, 3000, .inr (.inl (pl_74)))) := (f78 _ (by omega)).trans q1_74
    have x81 : h76 (mt + 2) = some (.inl (z 1, 3000, .inl (mv_74))) := (f78 _ (by omega)).trans q2_74
    have x82 : h76 (mt + 3) = some (.inl (z 1, 8192, .inl (sl_74))) := (f78 _ (by omega)).trans q3_74
    have x83 : h76 (mt + 4) = some (.inl (z 0, 7200, .inl (ft_74))) := (f78 _ (by omega)).trans q4_74
    have x84 : h76 (mt + 5) = some (.inl (z 5, 2, .inr (.inr (.inr (.inr (tk_74)))))) := (f78 _ (by omega)).trans q5_74
    have x85 : h76 (mt + 7) = some (.inl (z 1, 2, .inl (lns_74))) := (f78 _ (by omega)).trans q7_74
    refine ax_aload_n hC 2 dX4_send_71 rfl rfl ?_
    refine ax_getf (v := .ref (mt + 7)) hC x79 iX4 rfl 12 (by decide) (by decide +kernel) rfl rfl dX4_send_72 ?_
    refine ax_iload_n hC 3 dX4_send_75 rfl rfl ?_
    refine ax_iconst (v := 1) hC dX4_send_76 (by decide) ?_
    refine ax_iand hC dX4_send_77 ?_
    refine ax_eqi (y := 0) (by decide) ?_
    refine ax_iload hC 0 dX4_send_78 rfl ?_
    have b86 : vp_in 0 2 := vp_in_iff.mpr (by decide)
    refine ax_iast hC x85 1 rfl b86 dX4_send_80 (fun h87 e88 f89 => ?_)
    have x90 : h87 mt = some (.inr (6, [.int (nI fo_74), .int 0, .int 0, .int (-2), .int most_74, .ref cm, .ref (mt + 1), .ref (mt + 2), .ref (mt + 3), .ref (mt + 4), .ref (mt + 5), .ref (mt + 6), .ref (mt + 7), .int nr, .int over_74])) := (f89 _ (by omega)).trans x79
    have x91 : h87 (mt + 1) = some (.inl (z 2, 3000, .inr (.inl (pl_74)))) := (f89 _ (by omega)).trans x80
    have x92 : h87 (mt + 2) = some (.inl (z 1, 3000, .inl (mv_74))) := (f89 _ (by omega)).trans x81
    have x93 : h87 (mt + 3) = some (.inl (z 1, 8192, .inl (sl_74))) := (f89 _ (by omega)).trans x82
    have x94 : h87 (mt + 4) = some (.inl (z 0, 7200, .inl (ft_74))) := (f89 _ (by omega)).trans x83
    have x95 : h87 (mt + 5) = some (.inl (z 5, 2, .inr (.inr (.inr (.inr (tk_74)))))) := (f89 _ (by omega)).trans x84
    have x96 : h87 (mt + 6) = some (.inl (z 1, 2, .inl (upd ats_74 (0 : Int32).toNatClampNeg (nI a)))) := (f89 _ (by omega)).trans e77
    refine ax_vret hC hr hlocks dX4_send_81 ?_
    exact ⟨rfl, fun q hq => ((f89 q (by omega)).trans ((f78 q (by omega)).trans ((fr72 q (by omega)).trans ((f59 q (by omega)).trans (f6 q (by omega)))))), ⟨_, _, _, _, _, _, _, _, _, _, x90, x91, x92, x93, x94, x95, x96, e88, hfo_74, hov_74, hk0_74, hk1_74, (ua00 _ _), ((ua01 _ _).trans htb_74), (ua00 _ _), ((ua01 _ _).trans hz1_74), hpl_74, hft_74⟩⟩

set_option maxRecDepth 100000 in
set_option maxHeartbeats 4000000 in
theorem c_X4_send_1 (l : Launch) (D : va_G) (z : Nat → ClassId) (B : Heap) (lo hi : Nat) (h : Nat → Option va_E) (mt cm aF aG : Nat) (nr : Int32) (TF TG : PT) (W : Nat → Nat → Prop) (a b l0 l1 : Nat) (an lw x : Nat) (steps : Int32) (hX : MtX z h mt cm aF aG nr TF TG W a b l0 l1) (hok : PlaceOK TF TG W a an l0 lw) (hln : lw = if l1 = 0 then x else l1 + 128 * x) (hsm : l1 < 128) (hb1 : a < 64) (hb2 : an < 64) (hb3 : l0 < 16384) (hb4 : lw < 16384) : Met l yX4_send wsX4_send rmX4_send (KP D vwCl B lo hi h (ty6 z) [.ref mt, .int 1, .int (nI an), .int (nI x), .int steps]) (KQv D vwCl B lo (ty6 z) (fun hi' h' => hi' = hi ∧ (∀ q, (q < mt ∨ mt + 8 ≤ q) → h' q = h q) ∧ MtX z h' mt cm aF aG nr TF TG W a b l0 l1)) 0 0 (fun q => lo ≤ q) := by
  obtain ⟨fo, most, over, pl, mv, sl, ft, tk, ats, lns, q0, q1, q2, q3, q4, q5, q6, q7, hfo, hov, hk0, hk1, hta, htb, hz0, hz1, hpl, hft⟩ := hX
  refine ax_met (by decide) rfl (Nat.le_of_ble_eq_true rfl) (L0 := [(0, .ref mt), (1, .int 1), (2, .int (nI an)), (3, .int (nI x)), (4, .int steps)]) rfl ?_
  intro p e s m args below meth c hC hr hlocks hnm hargs
  have iX4 : ∀ w ∈ u_ws RX4 TX4 15, w ∈ wsX4_send := by decide +kernel
  refine ax_aload_n hC 0 dX4_send_0 rfl rfl ?_
  refine ax_getf (v := .ref (mt + 6)) hC q0 iX4 rfl 11 (by decide) (by decide +kernel) rfl rfl dX4_send_1 ?_
  refine ax_iload_n hC 1 dX4_send_4 rfl rfl ?_
  refine ax_iconst (v := 1) hC dX4_send_5 (by decide) ?_
  refine ax_iand hC dX4_send_6 ?_
  refine ax_eqi (y := 1) (by decide) ?_
  have b1 : vp_in 1 2 := vp_in_iff.mpr (by decide)
  refine ax_iald hC q6 1 rfl b1 dX4_send_7 ?_
  refine ax_eqi (y := nI b) (htb) ?_
  refine ax_istore hC [(5, .int (nI b)), (0, .ref mt), (1, .int 1), (2, .int (nI an)), (3, .int (nI x)), (4, .int steps)] dX4_send_8 (by decide) rfl ?_
  refine ax_aload_n hC 1 dX4_send_10 rfl rfl ?_
  refine ax_getf (v := .ref (mt + 7)) hC q0 iX4 rfl 12 (by decide) (by decide +kernel) rfl rfl dX4_send_11 ?_
  refine ax_iload_n hC 2 dX4_send_14 rfl rfl ?_
  refine ax_iconst (v := 1) hC dX4_send_15 (by decide) ?_
  refine ax_iand hC dX4_send_16 ?_
  refine ax_eqi (y := 1) (by decide) ?_
  have b2 : vp_in 1 2 := vp_in_iff.mpr (by decide)
  refine ax_iald hC q7 1 rfl b2 dX4_send_17 ?_
  refine ax_eqi (y := nI l1) (hz1) ?_
  refine ax_istore hC [(6, .int (nI l1)), (5, .int (nI b)), (0, .ref mt), (1, .int 1), (2, .int (nI an)), (3, .int (nI x)), (4, .int steps)] dX4_send_18 (by decide) rfl ?_
  refine ax_aload_n hC 2 dX4_send_20 rfl rfl ?_
  refine ax_getf (v := .ref (mt + 6)) hC q0 iX4 rfl 11 (by decide) (by decide +kernel) rfl rfl dX4_send_21 ?_
  refine ax_iload_n hC 3 dX4_send_24 rfl rfl ?_
  refine ax_iconst (v := 1) hC dX4_send_25 (by decide) ?_
  refine ax_iand hC dX4_send_26 ?_
  refine ax_eqi (y := 1) (by decide) ?_
  refine ax_iload_n hC 4 dX4_send_27 rfl rfl ?_
  have b3 : vp_in 1 2 := vp_in_iff.mpr (by decide)
  refine ax_iast hC q6 1 rfl b3 dX4_send_28 (fun h4 e5 f6 => ?_)
  have x7 : h4 mt = some (.inr (6, [.int (nI fo), .int 0, .int 0, .int (-2), .int most, .ref cm, .ref (mt + 1), .ref (mt + 2), .ref (mt + 3), .ref (mt + 4), .ref (mt + 5), .ref (mt + 6), .ref (mt + 7), .int nr, .int over])) := (f6 _ (by omega)).trans q0
  have x8 : h4 (mt + 1) = some (.inl (z 2, 3000, .inr (.inl (pl)))) := (f6 _ (by omega)).trans q1
  have x9 : h4 (mt + 2) = some (.inl (z 1, 3000, .inl (mv))) := (f6 _ (by omega)).trans q2
  have x10 : h4 (mt + 3) = some (.inl (z 1, 8192, .inl (sl))) := (f6 _ (by omega)).trans q3
  have x11 : h4 (mt + 4) = some (.inl (z 0, 7200, .inl (ft))) := (f6 _ (by omega)).trans q4
  have x12 : h4 (mt + 5) = some (.inl (z 5, 2, .inr (.inr (.inr (.inr (tk)))))) := (f6 _ (by omega)).trans q5
  have x13 : h4 (mt + 7) = some (.inl (z 1, 2, .inl (lns))) := (f6 _ (by omega)).trans q7
  refine ax_aload_n hC 2 dX4_send_29 rfl rfl ?_
  refine ax_getf (v := .ref (mt + 7)) hC x7 iX4 rfl 12 (by decide) (by decide +kernel) rfl rfl dX4_send_30 ?_
  refine ax_iload_n hC 3 dX4_send_33 rfl rfl ?_
  refine ax_iconst (v := 1) hC dX4_send_34 (by decide) ?_
  refine ax_iand hC dX4_send_35 ?_
  refine ax_eqi (y := 1) (by decide) ?_
  refine ax_iload hC 0 dX4_send_36 rfl ?_
  refine ax_if_ne (tgt := 45) hC dX4_send_38 (by decide) (fun c14 => ?_) (fun c14 => ?_)
  · refine ax_iload hC 0 dX4_send_45 rfl ?_
    refine ax_iload_n hC 5 dX4_send_47 rfl rfl ?_
    refine ax_bipush (v := 7) hC dX4_send_48 (by decide) ?_
    refine ax_ishl hC dX4_send_50 ?_
    refine ax_eqi (y := nI (x * 128)) (i32_shl7 x) ?_
    refine ax_ior hC dX4_send_51 ?_
    refine ax_eqi (y := nI lw) ((i32_or7 l1 x hsm).trans (congrArg nI (by rw [hln, if_neg (fun q9 => c14 (by rw [q9]; rfl))]))) ?_
    have b15 : vp_in 1 2 := vp_in_iff.mpr (by decide)
    refine ax_iast hC x13 1 rfl b15 dX4_send_52 (fun h16 e17 f18 => ?_)
    have x19 : h16 mt = some (.inr (6, [.int (nI fo), .int 0, .int 0, .int (-2), .int most, .ref cm, .ref (mt + 1), .ref (mt + 2), .ref (mt + 3), .ref (mt + 4), .ref (mt + 5), .ref (mt + 6), .ref (mt + 7), .int nr, .int over])) := (f18 _ (by omega)).trans x7
    have x20 : h16 (mt + 1) = some (.inl (z 2, 3000, .inr (.inl (pl)))) := (f18 _ (by omega)).trans x8
    have x21 : h16 (mt + 2) = some (.inl (z 1, 3000, .inl (mv))) := (f18 _ (by omega)).trans x9
    have x22 : h16 (mt + 3) = some (.inl (z 1, 8192, .inl (sl))) := (f18 _ (by omega)).trans x10
    have x23 : h16 (mt + 4) = some (.inl (z 0, 7200, .inl (ft))) := (f18 _ (by omega)).trans x11
    have x24 : h16 (mt + 5) = some (.inl (z 5, 2, .inr (.inr (.inr (.inr (tk)))))) := (f18 _ (by omega)).trans x12
    have x25 : h16 (mt + 6) = some (.inl (z 1, 2, .inl (upd ats (1 : Int32).toNatClampNeg (nI an)))) := (f18 _ (by omega)).trans e5
    refine ax_aload_n hC 2 dX4_send_53 rfl rfl ?_
    refine ax_iload hC 6 dX4_send_54 rfl ?_
    refine ax_iconst (v := 1) hC dX4_send_56 (by decide) ?_
    refine ax_iadd hC dX4_send_57 ?_
    have hX26 : MtX z h16 mt cm aF aG nr TF TG W a an l0 lw := ⟨_, _, _, _, _, _, _, _, _, _, x19, x20, x21, x22, x23, x24, x25, e17, hfo, hov, hk0, hk1, ((ua10 _ _).trans hta), (ua11 _ _), ((ua10 _ _).trans hz0), (ua11 _ _), hpl, hft⟩
    refine ax_callVv (st := []) hC [.int (steps + 1)] x19 rfl (c_X4_reach l D z B lo _ h16 mt cm aF aG nr TF TG W a an l0 lw (steps + 1) hX26 hok hb1 hb2 hb3 hb4) (cwV 1 hC.1.2.2.2.2 gX4_send_X4_reach rfl rfl rfl (by decide +kernel) ⟨Nat.le_of_ble_eq_true rfl, Nat.le_of_ble_eq_true rfl⟩) rfl rfl (Nat.le_of_ble_eq_true rfl) dX4_send_58 ⟨Nat.le_of_ble_eq_true rfl, Nat.le_of_ble_eq_true rfl⟩ (fun hi27 h28 hp29 => ?_)
    obtain ⟨ei30, fr31, hX32⟩ := hp29
    replace ei30 := ei30.symm
    subst ei30
    obtain ⟨fo_33, most_33, over_33, pl_33, mv_33, sl_33, ft_33, tk_33, ats_33, lns_33, q0_33, q1_33, q2_33, q3_33, q4_33, q5_33, q6_33, q7_33, hfo_33, hov_33, hk0_33, hk1_33, hta_33, htb_33, hz0_33, hz1_33, hpl_33, hft_33⟩ := id hX32
    refine ax_aload_n hC 2 dX4_send_61 rfl rfl ?_
    refine ax_getf (v := .ref (mt + 6)) hC q0_33 iX4 rfl 11 (by decide) (by decide +kernel) rfl rfl dX4_send_62 ?_
    refine ax_iload_n hC 3 dX4_send_65 rfl rfl ?_
    refine ax_iconst (v := 1) hC dX4_send_66 (by decide) ?_
    refine ax_iand hC dX4_send_67 ?_
    refine ax_eqi (y := 1) (by decide) ?_
    refine ax_iload hC 1 dX4_send_68 rfl ?_
    have b34 : vp_in 1 2 := vp_in_iff.mpr (by decide)
    refine ax_iast hC q6_33 1 rfl b34 dX4_send_70 (fun h35 e36 f37 => ?_)
    have x38 : h35 mt = some (.inr (6, [.int (nI fo_33), .int 0, .int 0, .int (-2), .int most_33, .ref cm, .ref (mt + 1), .ref (mt + 2), .ref (mt + 3), .ref (mt + 4), .ref (mt + 5), .ref (mt + 6), .ref (mt + 7), .int nr, .int over_33])) := (f37 _ (by omega)).trans q0_33
    have x39 : h35 (mt + 1) = some (.inl (z 2, 3000, .inr (.inl (pl_33)))) := (f37 _ (by omega)).trans q1_33
    have x40 : h35 (mt + 2) = some (.inl (z 1, 3000, .inl (mv_33))) := (f37 _ (by omega)).trans q2_33
    have x41 : h35 (mt + 3) = some (.inl (z 1, 8192, .inl (sl_33))) := (f37 _ (by omega)).trans q3_33
    have x42 : h35 (mt + 4) = some (.inl (z 0, 7200, .inl (ft_33))) := (f37 _ (by omega)).trans q4_33
    have x43 : h35 (mt + 5) = some (.inl (z 5, 2, .inr (.inr (.inr (.inr (tk_33)))))) := (f37 _ (by omega)).trans q5_33
    have x44 : h35 (mt + 7) = some (.inl (z 1, 2, .inl (lns_33))) := (f37 _ (by omega)).trans q7_33
    refine ax_aload_n hC 2 dX4_send_71 rfl rfl ?_
    refine ax_getf (v := .ref (mt + 7)) hC x38 iX4 rfl 12 (by decide) (by decide +kernel) rfl rfl dX4_send_72 ?_
    refine ax_iload_n hC 3 dX4_send_75 rfl rfl ?_
    refine ax_iconst (v := 1) hC dX4_send_76 (by decide) ?_
    refine ax_iand hC dX4_send_77 ?_
    refine ax_eqi (y := 1) (by decide) ?_
    refine ax_iload hC 0 dX4_send_78 rfl ?_
    have b45 : vp_in 1 2 := vp_in_iff.mpr (by decide)
    refine ax_iast hC x44 1 rfl b45 dX4_send_80 (fun h46 e47 f48 => ?_)
    have x49 : h46 mt = some (.inr (6, [.int (nI fo_33), .int 0, .int 0, .int (-2), .int most_33, .ref cm, .ref (mt + 1), .ref (mt + 2), .ref (mt + 3), .ref (mt + 4), .ref (mt + 5), .ref (mt + 6), .ref (mt + 7), .int nr, .int over_33])) := (f48 _ (by omega)).trans x38
    have x50 : h46 (mt + 1) = some (.inl (z 2, 3000, .inr (.inl (pl_33)))) := (f48 _ (by omega)).trans x39
    have x51 : h46 (mt + 2) = some (.inl (z 1, 3000, .inl (mv_33))) := (f48 _ (by omega)).trans x40
    have x52 : h46 (mt + 3) = some (.inl (z 1, 8192, .inl (sl_33))) := (f48 _ (by omega)).trans x41
    have x53 : h46 (mt + 4) = some (.inl (z 0, 7200, .inl (ft_33))) := (f48 _ (by omega)).trans x42
    have x54 : h46 (mt + 5) = some (.inl (z 5, 2, .inr (.inr (.inr (.inr (tk_33)))))) := (f48 _ (by omega)).trans x43
    have x55 : h46 (mt + 6) = some (.inl (z 1, 2, .inl (upd ats_33 (1 : Int32).toNatClampNeg (nI b)))) := (f48 _ (by omega)).trans e36
    refine ax_vret hC hr hlocks dX4_send_81 ?_
    exact ⟨rfl, fun q hq => ((f48 q (by omega)).trans ((f37 q (by omega)).trans ((fr31 q (by omega)).trans ((f18 q (by omega)).trans (f6 q (by omega)))))), ⟨_, _, _, _, _, _, _, _, _, _, x49, x50, x51, x52, x53, x54, x55, e47, hfo_33, hov_33, hk0_33, hk1_33, ((ua10 _ _).trans hta_33), (ua11 _ _), ((ua10 _ _).trans hz0_33), (ua11 _ _), hpl_33, hft_33⟩⟩
  · refine ax_iload_n hC 5 dX4_send_41 rfl rfl ?_
    refine ax_goto (tgt := 52) hC dX4_send_42 (by decide) ?_
    have hz9 := (nI_eq (a := l1) (b := 0) (by omega) (by decide)).mp c14
    refine ax_eqi (y := nI lw) (congrArg nI (by rw [hln, if_pos hz9])) ?_
    have b56 : vp_in 1 2 := vp_in_iff.mpr (by decide)
    refine ax_iast hC x13 1 rfl b56 dX4_send_52 (fun h57 e58 f59 => ?_)
    have x60 : h57 mt = some (.inr (6, [.int (nI fo), .int 0, .int 0, .int (-2), .int most, .ref cm, .ref (mt + 1), .ref (mt + 2), .ref (mt + 3), .ref (mt + 4), .ref (mt + 5), .ref (mt + 6), .ref (mt + 7), .int nr, .int over])) := (f59 _ (by omega)).trans x7
    have x61 : h57 (mt + 1) = some (.inl (z 2, 3000, .inr (.inl (pl)))) := (f59 _ (by omega)).trans x8
    have x62 : h57 (mt + 2) = some (.inl (z 1, 3000, .inl (mv))) := (f59 _ (by omega)).trans x9
    have x63 : h57 (mt + 3) = some (.inl (z 1, 8192, .inl (sl))) := (f59 _ (by omega)).trans x10
    have x64 : h57 (mt + 4) = some (.inl (z 0, 7200, .inl (ft))) := (f59 _ (by omega)).trans x11
    have x65 : h57 (mt + 5) = some (.inl (z 5, 2, .inr (.inr (.inr (.inr (tk)))))) := (f59 _ (by omega)).trans x12
    have x66 : h57 (mt + 6) = some (.inl (z 1, 2, .inl (upd ats (1 : Int32).toNatClampNeg (nI an)))) := (f59 _ (by omega)).trans e5
    refine ax_aload_n hC 2 dX4_send_53 rfl rfl ?_
    refine ax_iload hC 6 dX4_send_54 rfl ?_
    refine ax_iconst (v := 1) hC dX4_send_56 (by decide) ?_
    refine ax_iadd hC dX4_send_57 ?_
    have hX67 : MtX z h57 mt cm aF aG nr TF TG W a an l0 lw := ⟨_, _, _, _, _, _, _, _, _, _, x60, x61, x62, x63, x64, x65, x66, e58, hfo, hov, hk0, hk1, ((ua10 _ _).trans hta), (ua11 _ _), ((ua10 _ _).trans hz0), (ua11 _ _), hpl, hft⟩
    refine ax_callVv (st := []) hC [.int (steps + 1)] x60 rfl (c_X4_reach l D z B lo _ h57 mt cm aF aG nr TF TG W a an l0 lw (steps + 1) hX67 hok hb1 hb2 hb3 hb4) (cwV 1 hC.1.2.2.2.2 gX4_send_X4_reach rfl rfl rfl (by decide +kernel) ⟨Nat.le_of_ble_eq_true rfl, Nat.le_of_ble_eq_true rfl⟩) rfl rfl (Nat.le_of_ble_eq_true rfl) dX4_send_58 ⟨Nat.le_of_ble_eq_true rfl, Nat.le_of_ble_eq_true rfl⟩ (fun hi68 h69 hp70 => ?_)
    obtain ⟨ei71, fr72, hX73⟩ := hp70
    replace ei71 := ei71.symm
    subst ei71
    obtain ⟨fo_74, most_74, over_74, pl_74, mv_74, sl_74, ft_74, tk_74, ats_74, lns_74, q0_74, q1_74, q2_74, q3_74, q4_74, q5_74, q6_74, q7_74, hfo_74, hov_74, hk0_74, hk1_74, hta_74, htb_74, hz0_74, hz1_74, hpl_74, hft_74⟩ := id hX73
    refine ax_aload_n hC 2 dX4_send_61 rfl rfl ?_
    refine ax_getf (v := .ref (mt + 6)) hC q0_74 iX4 rfl 11 (by decide) (by decide +kernel) rfl rfl dX4_send_62 ?_
    refine ax_iload_n hC 3 dX4_send_65 rfl rfl ?_
    refine ax_iconst (v := 1) hC dX4_send_66 (by decide) ?_
    refine ax_iand hC dX4_send_67 ?_
    refine ax_eqi (y := 1) (by decide) ?_
    refine ax_iload hC 1 dX4_send_68 rfl ?_
    have b75 : vp_in 1 2 := vp_in_iff.mpr (by decide)
    refine ax_iast hC q6_74 1 rfl b75 dX4_send_70 (fun h76 e77 f78 => ?_)
    have x79 : h76 mt = some (.inr (6, [.int (nI fo_74), .int 0, .int 0, .int (-2), .int most_74, .ref cm, .ref (mt + 1), .ref (mt + 2), .ref (mt + 3), .ref (mt + 4), .ref (mt + 5), .ref (mt + 6), .ref (mt + 7), .int nr, .int over_74])) := (f78 _ (by omega)).trans q0_74
    have x80 : h76 (mt + 1) = some (.inl (z 2, 3000, .inr (.inl (pl_74)))) := (f78 _ (by omega)).trans q1_74
    have x81 : h76 (mt + 2) = some (.inl (z 1, 3000, .inl (mv_74))) := (f78 _ (by omega)).trans q2_74
    have x82 : h76 (mt + 3) = some (.inl (z 1, 8192, .inl (sl_74))) := (f78 _ (by omega)).trans q3_74
    have x83 : h76 (mt + 4) = some (.inl (z 0, 7200, .inl (ft_74))) := (f78 _ (by omega)).trans q4_74
    have x84 : h76 (mt + 5) = some (.inl (z 5, 2, .inr (.inr (.inr (.inr (tk_74)))))) := (f78 _ (by omega)).trans q5_74
    have x85 : h76 (mt + 7) = some (.inl (z 1, 2, .inl (lns_74))) := (f78 _ (by omega)).trans q7_74
    refine ax_aload_n hC 2 dX4_send_71 rfl rfl ?_
    refine ax_getf (v := .ref (mt + 7)) hC x79 iX4 rfl 12 (by decide) (by decide +kernel) rfl rfl dX4_send_72 ?_
    refine ax_iload_n hC 3 dX4_send_75 rfl rfl ?_
    refine ax_iconst (v := 1) hC dX4_send_76 (by decide) ?_
    refine ax_iand hC dX4_send_77 ?_
    refine ax_eqi (y := 1) (by decide) ?_
    refine ax_iload hC 0 dX4_send_78 rfl ?_
    have b86 : vp_in 1 2 := vp_in_iff.mpr (by decide)
    refine ax_iast hC x85 1 rfl b86 dX4_send_80 (fun h87 e88 f89 => ?_)
    have x90 : h87 mt = some (.inr (6, [.int (nI fo_74), .int 0, .int 0, .int (-2), .int most_74, .ref cm, .ref (mt + 1), .ref (mt + 2), .ref (mt + 3), .ref (mt + 4), .ref (mt + 5), .ref (mt + 6), .ref (mt + 7), .int nr, .int over_74])) := (f89 _ (by omega)).trans x79
    have x91 : h87 (mt + 1) = some (.inl (z 2, 3000, .inr (.inl (pl_74)))) := (f89 _ (by omega)).trans x80
    have x92 : h87 (mt + 2) = some (.inl (z 1, 3000, .inl (mv_74))) := (f89 _ (by omega)).trans x81
    have x93 : h87 (mt + 3) = some (.inl (z 1, 8192, .inl (sl_74))) := (f89 _ (by omega)).trans x82
    have x94 : h87 (mt + 4) = some (.inl (z 0, 7200, .inl (ft_74))) := (f89 _ (by omega)).trans x83
    have x95 : h87 (mt + 5) = some (.inl (z 5, 2, .inr (.inr (.inr (.inr (tk_74)))))) := (f89 _ (by omega)).trans x84
    have x96 : h87 (mt + 6) = some (.inl (z 1, 2, .inl (upd ats_74 (1 : Int32).toNatClampNeg (nI b)))) := (f89 _ (by omega)).trans e77
    refine ax_vret hC hr hlocks dX4_send_81 ?_
    exact ⟨rfl, fun q hq => ((f89 q (by omega)).trans ((f78 q (by omega)).trans ((fr72 q (by omega)).trans ((f59 q (by omega)).trans (f6 q (by omega)))))), ⟨_, _, _, _, _, _, _, _, _, _, x90, x91, x92, x93, x94, x95, x96, e88, hfo_74, hov_74, hk0_74, hk1_74, ((ua10 _ _).trans hta_74), (ua11 _ _), ((ua10 _ _).trans hz0_74), (ua11 _ _), hpl_74, hft_74⟩⟩

abbrev rmX4_draw : Room := { frames := 2, cells := 0, slots := 0, locals := 49 }
set_option maxRecDepth 100000 in
set_option maxHeartbeats 4000000 in
theorem c_X4_draw_0 (l : Launch) (D : va_G) (z : Nat → ClassId) (B : Heap) (lo hi : Nat) (h : Nat → Option va_E) (mt cm aF aG : Nat) (nr : Int32) (TF TG : PT) (W : Nat → Nat → Prop) (a b l0 l1 : Nat) (an : Nat) (steps : Int32) (hX : MtX z h mt cm aF aG nr TF TG W a b l0 l1) (hok : PlaceOK TF TG W an b l0 (l1 / 128)) (hlf : l1 < 16384) (hb1 : an < 64) (hb2 : b < 64) (hb3 : l0 < 16384) (hb4 : l1 / 128 < 16384) : Met l yX4_draw wsX4_draw rmX4_draw (KP D vwCl B lo hi h (ty6 z) [.ref mt, .int 0, .int (nI an), .int steps]) (KQv D vwCl B lo (ty6 z) (fun hi' h' => hi' = hi ∧ (∀ q, (q < mt ∨ mt + 8 ≤ q) → h' q = h q) ∧ MtX z h' mt cm aF aG nr TF TG W a b l0 l1)) 0 0 (fun q => lo ≤ q) := by
  obtain ⟨fo, most, over, pl, mv, sl, ft, tk, ats, lns, q0, q1, q2, q3, q4, q5, q6, q7, hfo, hov, hk0, hk1, hta, htb, hz0, hz1, hpl, hft⟩ := hX
  refine ax_met (by decide) rfl (Nat.le_of_ble_eq_true rfl) (L0 := [(0, .ref mt), (1, .int 0), (2, .int (nI an)), (3, .int steps)]) rfl ?_
  intro p e s m args below meth c hC hr hlocks hnm hargs
  have iX4 : ∀ w ∈ u_ws RX4 TX4 15, w ∈ wsX4_draw := by decide +kernel
  refine ax_iconst (v := 1) hC dX4_draw_0 (by decide) ?_
  refine ax_iload_n hC 1 dX4_draw_1 rfl rfl ?_
  refine ax_isub hC dX4_draw_2 ?_
  refine ax_eqi (y := 1) (by decide) ?_
  refine ax_iconst (v := 1) hC dX4_draw_3 (by decide) ?_
  refine ax_iand hC dX4_draw_4 ?_
  refine ax_eqi (y := 1) (by decide) ?_
  refine ax_istore hC [(4, .int 1), (0, .ref mt), (1, .int 0), (2, .int (nI an)), (3, .int steps)] dX4_draw_5 (by decide) rfl ?_
  refine ax_aload_n hC 1 dX4_draw_7 rfl rfl ?_
  refine ax_getf (v := .ref (mt + 6)) hC q0 iX4 rfl 11 (by decide) (by decide +kernel) rfl rfl dX4_draw_8 ?_
  refine ax_iload_n hC 2 dX4_draw_11 rfl rfl ?_
  refine ax_iconst (v := 1) hC dX4_draw_12 (by decide) ?_
  refine ax_iand hC dX4_draw_13 ?_
  refine ax_eqi (y := 0) (by decide) ?_
  have b1 : vp_in 0 2 := vp_in_iff.mpr (by decide)
  refine ax_iald hC q6 1 rfl b1 dX4_draw_14 ?_
  refine ax_eqi (y := nI a) (hta) ?_
  refine ax_istore hC [(5, .int (nI a)), (4, .int 1), (0, .ref mt), (1, .int 0), (2, .int (nI an)), (3, .int steps)] dX4_draw_15 (by decide) rfl ?_
  refine ax_aload_n hC 2 dX4_draw_17 rfl rfl ?_
  refine ax_getf (v := .ref (mt + 7)) hC q0 iX4 rfl 12 (by decide) (by decide +kernel) rfl rfl dX4_draw_18 ?_
  refine ax_iload hC 1 dX4_draw_21 rfl ?_
  have b2 : vp_in 1 2 := vp_in_iff.mpr (by decide)
  refine ax_iald hC q7 1 rfl b2 dX4_draw_23 ?_
  refine ax_eqi (y := nI l1) (hz1) ?_
  refine ax_istore hC [(6, .int (nI l1)), (5, .int (nI a)), (4, .int 1), (0, .ref mt), (1, .int 0), (2, .int (nI an)), (3, .int steps)] dX4_draw_24 (by decide) rfl ?_
  refine ax_aload_n hC 3 dX4_draw_26 rfl rfl ?_
  refine ax_getf (v := .ref (mt + 6)) hC q0 iX4 rfl 11 (by decide) (by decide +kernel) rfl rfl dX4_draw_27 ?_
  refine ax_iload_n hC 4 dX4_draw_30 rfl rfl ?_
  refine ax_iconst (v := 1) hC dX4_draw_31 (by decide) ?_
  refine ax_iand hC dX4_draw_32 ?_
  refine ax_eqi (y := 0) (by decide) ?_
  refine ax_iload_n hC 5 dX4_draw_33 rfl rfl ?_
  have b3 : vp_in 0 2 := vp_in_iff.mpr (by decide)
  refine ax_iast hC q6 1 rfl b3 dX4_draw_34 (fun h4 e5 f6 => ?_)
  have x7 : h4 mt = some (.inr (6, [.int (nI fo), .int 0, .int 0, .int (-2), .int most, .ref cm, .ref (mt + 1), .ref (mt + 2), .ref (mt + 3), .ref (mt + 4), .ref (mt + 5), .ref (mt + 6), .ref (mt + 7), .int nr, .int over])) := (f6 _ (by omega)).trans q0
  have x8 : h4 (mt + 1) = some (.inl (z 2, 3000, .inr (.inl (pl)))) := (f6 _ (by omega)).trans q1
  have x9 : h4 (mt + 2) = some (.inl (z 1, 3000, .inl (mv))) := (f6 _ (by omega)).trans q2
  have x10 : h4 (mt + 3) = some (.inl (z 1, 8192, .inl (sl))) := (f6 _ (by omega)).trans q3
  have x11 : h4 (mt + 4) = some (.inl (z 0, 7200, .inl (ft))) := (f6 _ (by omega)).trans q4
  have x12 : h4 (mt + 5) = some (.inl (z 5, 2, .inr (.inr (.inr (.inr (tk)))))) := (f6 _ (by omega)).trans q5
  have x13 : h4 (mt + 7) = some (.inl (z 1, 2, .inl (lns))) := (f6 _ (by omega)).trans q7
  refine ax_aload_n hC 3 dX4_draw_35 rfl rfl ?_
  refine ax_getf (v := .ref (mt + 7)) hC x7 iX4 rfl 12 (by decide) (by decide +kernel) rfl rfl dX4_draw_36 ?_
  refine ax_iload hC 2 dX4_draw_39 rfl ?_
  refine ax_iload hC 0 dX4_draw_41 rfl ?_
  refine ax_bipush (v := 7) hC dX4_draw_43 (by decide) ?_
  refine ax_ishr hC dX4_draw_45 ?_
  refine ax_eqi (y := nI (l1 / 128)) (i32_shr7 l1 (by omega)) ?_
  have b14 : vp_in 1 2 := vp_in_iff.mpr (by decide)
  refine ax_iast hC x13 1 rfl b14 dX4_draw_46 (fun h15 e16 f17 => ?_)
  have x18 : h15 mt = some (.inr (6, [.int (nI fo), .int 0, .int 0, .int (-2), .int most, .ref cm, .ref (mt + 1), .ref (mt + 2), .ref (mt + 3), .ref (mt + 4), .ref (mt + 5), .ref (mt + 6), .ref (mt + 7), .int nr, .int over])) := (f17 _ (by omega)).trans x7
  have x19 : h15 (mt + 1) = some (.inl (z 2, 3000, .inr (.inl (pl)))) := (f17 _ (by omega)).trans x8
  have x20 : h15 (mt + 2) = some (.inl (z 1, 3000, .inl (mv))) := (f17 _ (by omega)).trans x9
  have x21 : h15 (mt + 3) = some (.inl (z 1, 8192, .inl (sl))) := (f17 _ (by omega)).trans x10
  have x22 : h15 (mt + 4) = some (.inl (z 0, 7200, .inl (ft))) := (f17 _ (by omega)).trans x11
  have x23 : h15 (mt + 5) = some (.inl (z 5, 2, .inr (.inr (.inr (.inr (tk)))))) := (f17 _ (by omega)).trans x12
  have x24 : h15 (mt + 6) = some (.inl (z 1, 2, .inl (upd ats (0 : Int32).toNatClampNeg (nI an)))) := (f17 _ (by omega)).trans e5
  refine ax_aload_n hC 3 dX4_draw_47 rfl rfl ?_
  refine ax_iload_n hC 6 dX4_draw_48 rfl rfl ?_
  refine ax_iconst (v := 1) hC dX4_draw_49 (by decide) ?_
  refine ax_iadd hC dX4_draw_50 ?_
  have hX25 : MtX z h15 mt cm aF aG nr TF TG W an b l0 (l1 / 128) := ⟨_, _, _, _, _, _, _, _, _, _, x18, x19, x20, x21, x22, x23, x24, e16, hfo, hov, hk0, hk1, (ua00 _ _), ((ua01 _ _).trans htb), ((ua10 _ _).trans hz0), (ua11 _ _), hpl, hft⟩
  refine ax_callVv (st := []) hC [.int (steps + 1)] x18 rfl (c_X4_reach l D z B lo _ h15 mt cm aF aG nr TF TG W an b l0 (l1 / 128) (steps + 1) hX25 hok hb1 hb2 hb3 hb4) (cwV 1 hC.1.2.2.2.2 gX4_draw_X4_reach rfl rfl rfl (by decide +kernel) ⟨Nat.le_of_ble_eq_true rfl, Nat.le_of_ble_eq_true rfl⟩) rfl rfl (Nat.le_of_ble_eq_true rfl) dX4_draw_51 ⟨Nat.le_of_ble_eq_true rfl, Nat.le_of_ble_eq_true rfl⟩ (fun hi26 h27 hp28 => ?_)
  obtain ⟨ei29, fr30, hX31⟩ := hp28
  replace ei29 := ei29.symm
  subst ei29
  obtain ⟨fo_32, most_32, over_32, pl_32, mv_32, sl_32, ft_32, tk_32, ats_32, lns_32, q0_32, q1_32, q2_32, q3_32, q4_32, q5_32, q6_32, q7_32, hfo_32, hov_32, hk0_32, hk1_32, hta_32, htb_32, hz0_32, hz1_32, hpl_32, hft_32⟩ := id hX31
  refine ax_aload_n hC 3 dX4_draw_54 rfl rfl ?_
  refine ax_getf (v := .ref (mt + 6)) hC q0_32 iX4 rfl 11 (by decide) (by decide +kernel) rfl rfl dX4_draw_55 ?_
  refine ax_iload_n hC 4 dX4_draw_58 rfl rfl ?_
  refine ax_iconst (v := 1) hC dX4_draw_59 (by decide) ?_
  refine ax_iand hC dX4_draw_60 ?_
  refine ax_eqi (y := 0) (by decide) ?_
  refine ax_iload hC 1 dX4_draw_61 rfl ?_
  have b33 : vp_in 0 2 := vp_in_iff.mpr (by decide)
  refine ax_iast hC q6_32 1 rfl b33 dX4_draw_63 (fun h34 e35 f36 => ?_)
  have x37 : h34 mt = some (.inr (6, [.int (nI fo_32), .int 0, .int 0, .int (-2), .int most_32, .ref cm, .ref (mt + 1), .ref (mt + 2), .ref (mt + 3), .ref (mt + 4), .ref (mt + 5), .ref (mt + 6), .ref (mt + 7), .int nr, .int over_32])) := (f36 _ (by omega)).trans q0_32
  have x38 : h34 (mt + 1) = some (.inl (z 2, 3000, .inr (.inl (pl_32)))) := (f36 _ (by omega)).trans q1_32
  have x39 : h34 (mt + 2) = some (.inl (z 1, 3000, .inl (mv_32))) := (f36 _ (by omega)).trans q2_32
  have x40 : h34 (mt + 3) = some (.inl (z 1, 8192, .inl (sl_32))) := (f36 _ (by omega)).trans q3_32
  have x41 : h34 (mt + 4) = some (.inl (z 0, 7200, .inl (ft_32))) := (f36 _ (by omega)).trans q4_32
  have x42 : h34 (mt + 5) = some (.inl (z 5, 2, .inr (.inr (.inr (.inr (tk_32)))))) := (f36 _ (by omega)).trans q5_32
  have x43 : h34 (mt + 7) = some (.inl (z 1, 2, .inl (lns_32))) := (f36 _ (by omega)).trans q7_32
  refine ax_aload_n hC 3 dX4_draw_64 rfl rfl ?_
  refine ax_getf (v := .ref (mt + 7)) hC x37 iX4 rfl 12 (by decide) (by decide +kernel) rfl rfl dX4_draw_65 ?_
  refine ax_iload hC 2 dX4_draw_68 rfl ?_
  refine ax_iload hC 0 dX4_draw_70 rfl ?_
  have b44 : vp_in 1 2 := vp_in_iff.mpr (by decide)
  refine ax_iast hC x43 1 rfl b44 dX4_draw_72 (fun h45 e46 f47 => ?_)
  have x48 : h45 mt = some (.inr (6, [.int (nI fo_32), .int 0, .int 0, .int (-2), .int most_32, .ref cm, .ref (mt + 1), .ref (mt + 2), .ref (mt + 3), .ref (mt + 4), .ref (mt + 5), .ref (mt + 6), .ref (mt + 7), .int nr, .int over_32])) := (f47 _ (by omega)).trans x37
  have x49 : h45 (mt + 1) = some (.inl (z 2, 3000, .inr (.inl (pl_32)))) := (f47 _ (by omega)).trans x38
  have x50 : h45 (mt + 2) = some (.inl (z 1, 3000, .inl (mv_32))) := (f47 _ (by omega)).trans x39
  have x51 : h45 (mt + 3) = some (.inl (z 1, 8192, .inl (sl_32))) := (f47 _ (by omega)).trans x40
  have x52 : h45 (mt + 4) = some (.inl (z 0, 7200, .inl (ft_32))) := (f47 _ (by omega)).trans x41
  have x53 : h45 (mt + 5) = some (.inl (z 5, 2, .inr (.inr (.inr (.inr (tk_32)))))) := (f47 _ (by omega)).trans x42
  have x54 : h45 (mt + 6) = some (.inl (z 1, 2, .inl (upd ats_32 (0 : Int32).toNatClampNeg (nI a)))) := (f47 _ (by omega)).trans e35
  refine ax_vret hC hr hlocks dX4_draw_73 ?_
  exact ⟨rfl, fun q hq => ((f47 q (by omega)).trans ((f36 q (by omega)).trans ((fr30 q (by omega)).trans ((f17 q (by omega)).trans (f6 q (by omega)))))), ⟨_, _, _, _, _, _, _, _, _, _, x48, x49, x50, x51, x52, x53, x54, e46, hfo_32, hov_32, hk0_32, hk1_32, (ua00 _ _), ((ua01 _ _).trans htb_32), ((ua10 _ _).trans hz0_32), (ua11 _ _), hpl_32, hft_32⟩⟩

set_option maxRecDepth 100000 in
set_option maxHeartbeats 4000000 in
theorem c_X4_draw_1 (l : Launch) (D : va_G) (z : Nat → ClassId) (B : Heap) (lo hi : Nat) (h : Nat → Option va_E) (mt cm aF aG : Nat) (nr : Int32) (TF TG : PT) (W : Nat → Nat → Prop) (a b l0 l1 : Nat) (an : Nat) (steps : Int32) (hX : MtX z h mt cm aF aG nr TF TG W a b l0 l1) (hok : PlaceOK TF TG W a an (l0 / 128) l1) (hlf : l0 < 16384) (hb1 : a < 64) (hb2 : an < 64) (hb3 : l0 / 128 < 16384) (hb4 : l1 < 16384) : Met l yX4_draw wsX4_draw rmX4_draw (KP D vwCl B lo hi h (ty6 z) [.ref mt, .int 1, .int (nI an), .int steps]) (KQv D vwCl B lo (ty6 z) (fun hi' h' => hi' = hi ∧ (∀ q, (q < mt ∨ mt + 8 ≤ q) → h' q = h q) ∧ MtX z h' mt cm aF aG nr TF TG W a b l0 l1)) 0 0 (fun q => lo ≤ q) := by
  obtain ⟨fo, most, over, pl, mv, sl, ft, tk, ats, lns, q0, q1, q2, q3, q4, q5, q6, q7, hfo, hov, hk0, hk1, hta, htb, hz0, hz1, hpl, hft⟩ := hX
  refine ax_met (by decide) rfl (Nat.le_of_ble_eq_true rfl) (L0 := [(0, .ref mt), (1, .int 1), (2, .int (nI an)), (3, .int steps)]) rfl ?_
  intro p e s m args below meth c hC hr hlocks hnm hargs
  have iX4 : ∀ w ∈ u_ws RX4 TX4 15, w ∈ wsX4_draw := by decide +kernel
  refine ax_iconst (v := 1) hC dX4_draw_0 (by decide) ?_
  refine ax_iload_n hC 1 dX4_draw_1 rfl rfl ?_
  refine ax_isub hC dX4_draw_2 ?_
  refine ax_eqi (y := 0) (by decide) ?_
  refine ax_iconst (v := 1) hC dX4_draw_3 (by decide) ?_
  refine ax_iand hC dX4_draw_4 ?_
  refine ax_eqi (y := 0) (by decide) ?_
  refine ax_istore hC [(4, .int 0), (0, .ref mt), (1, .int 1), (2, .int (nI an)), (3, .int steps)] dX4_draw_5 (by decide) rfl ?_
  refine ax_aload_n hC 1 dX4_draw_7 rfl rfl ?_
  refine ax_getf (v := .ref (mt + 6)) hC q0 iX4 rfl 11 (by decide) (by decide +kernel) rfl rfl dX4_draw_8 ?_
  refine ax_iload_n hC 2 dX4_draw_11 rfl rfl ?_
  refine ax_iconst (v := 1) hC dX4_draw_12 (by decide) ?_
  refine ax_iand hC dX4_draw_13 ?_
  refine ax_eqi (y := 1) (by decide) ?_
  have b1 : vp_in 1 2 := vp_in_iff.mpr (by decide)
  refine ax_iald hC q6 1 rfl b1 dX4_draw_14 ?_
  refine ax_eqi (y := nI b) (htb) ?_
  refine ax_istore hC [(5, .int (nI b)), (4, .int 0), (0, .ref mt), (1, .int 1), (2, .int (nI an)), (3, .int steps)] dX4_draw_15 (by decide) rfl ?_
  refine ax_aload_n hC 2 dX4_draw_17 rfl rfl ?_
  refine ax_getf (v := .ref (mt + 7)) hC q0 iX4 rfl 12 (by decide) (by decide +kernel) rfl rfl dX4_draw_18 ?_
  refine ax_iload hC 1 dX4_draw_21 rfl ?_
  have b2 : vp_in 0 2 := vp_in_iff.mpr (by decide)
  refine ax_iald hC q7 1 rfl b2 dX4_draw_23 ?_
  refine ax_eqi (y := nI l0) (hz0) ?_
  refine ax_istore hC [(6, .int (nI l0)), (5, .int (nI b)), (4, .int 0), (0, .ref mt), (1, .int 1), (2, .int (nI an)), (3, .int steps)] dX4_draw_24 (by decide) rfl ?_
  refine ax_aload_n hC 3 dX4_draw_26 rfl rfl ?_
  refine ax_getf (v := .ref (mt + 6)) hC q0 iX4 rfl 11 (by decide) (by decide +kernel) rfl rfl dX4_draw_27 ?_
  refine ax_iload_n hC 4 dX4_draw_30 rfl rfl ?_
  refine ax_iconst (v := 1) hC dX4_draw_31 (by decide) ?_
  refine ax_iand hC dX4_draw_32 ?_
  refine ax_eqi (y := 1) (by decide) ?_
  refine ax_iload_n hC 5 dX4_draw_33 rfl rfl ?_
  have b3 : vp_in 1 2 := vp_in_iff.mpr (by decide)
  refine ax_iast hC q6 1 rfl b3 dX4_draw_34 (fun h4 e5 f6 => ?_)
  have x7 : h4 mt = some (.inr (6, [.int (nI fo), .int 0, .int 0, .int (-2), .int most, .ref cm, .ref (mt + 1), .ref (mt + 2), .ref (mt + 3), .ref (mt + 4), .ref (mt + 5), .ref (mt + 6), .ref (mt + 7), .int nr, .int over])) := (f6 _ (by omega)).trans q0
  have x8 : h4 (mt + 1) = some (.inl (z 2, 3000, .inr (.inl (pl)))) := (f6 _ (by omega)).trans q1
  have x9 : h4 (mt + 2) = some (.inl (z 1, 3000, .inl (mv))) := (f6 _ (by omega)).trans q2
  have x10 : h4 (mt + 3) = some (.inl (z 1, 8192, .inl (sl))) := (f6 _ (by omega)).trans q3
  have x11 : h4 (mt + 4) = some (.inl (z 0, 7200, .inl (ft))) := (f6 _ (by omega)).trans q4
  have x12 : h4 (mt + 5) = some (.inl (z 5, 2, .inr (.inr (.inr (.inr (tk)))))) := (f6 _ (by omega)).trans q5
  have x13 : h4 (mt + 7) = some (.inl (z 1, 2, .inl (lns))) := (f6 _ (by omega)).trans q7
  refine ax_aload_n hC 3 dX4_draw_35 rfl rfl ?_
  refine ax_getf (v := .ref (mt + 7)) hC x7 iX4 rfl 12 (by decide) (by decide +kernel) rfl rfl dX4_draw_36 ?_
  refine ax_iload hC 2 dX4_draw_39 rfl ?_
  refine ax_iload hC 0 dX4_draw_41 rfl ?_
  refine ax_bipush (v := 7) hC dX4_draw_43 (by decide) ?_
  refine ax_ishr hC dX4_draw_45 ?_
  refine ax_eqi (y := nI (l0 / 128)) (i32_shr7 l0 (by omega)) ?_
  have b14 : vp_in 0 2 := vp_in_iff.mpr (by decide)
  refine ax_iast hC x13 1 rfl b14 dX4_draw_46 (fun h15 e16 f17 => ?_)
  have x18 : h15 mt = some (.inr (6, [.int (nI fo), .int 0, .int 0, .int (-2), .int most, .ref cm, .ref (mt + 1), .ref (mt + 2), .ref (mt + 3), .ref (mt + 4), .ref (mt + 5), .ref (mt + 6), .ref (mt + 7), .int nr, .int over])) := (f17 _ (by omega)).trans x7
  have x19 : h15 (mt + 1) = some (.inl (z 2, 3000, .inr (.inl (pl)))) := (f17 _ (by omega)).trans x8
  have x20 : h15 (mt + 2) = some (.inl (z 1, 3000, .inl (mv))) := (f17 _ (by omega)).trans x9
  have x21 : h15 (mt + 3) = some (.inl (z 1, 8192, .inl (sl))) := (f17 _ (by omega)).trans x10
  have x22 : h15 (mt + 4) = some (.inl (z 0, 7200, .inl (ft))) := (f17 _ (by omega)).trans x11
  have x23 : h15 (mt + 5) = some (.inl (z 5, 2, .inr (.inr (.inr (.inr (tk)))))) := (f17 _ (by omega)).trans x12
  have x24 : h15 (mt + 6) = some (.inl (z 1, 2, .inl (upd ats (1 : Int32).toNatClampNeg (nI an)))) := (f17 _ (by omega)).trans e5
  refine ax_aload_n hC 3 dX4_draw_47 rfl rfl ?_
  refine ax_iload_n hC 6 dX4_draw_48 rfl rfl ?_
  refine ax_iconst (v := 1) hC dX4_draw_49 (by decide) ?_
  refine ax_iadd hC dX4_draw_50 ?_
  have hX25 : MtX z h15 mt cm aF aG nr TF TG W a an (l0 / 128) l1 := ⟨_, _, _, _, _, _, _, _, _, _, x18, x19, x20, x21, x22, x23, x24, e16, hfo, hov, hk0, hk1, ((ua10 _ _).trans hta), (ua11 _ _), (ua00 _ _), ((ua01 _ _).trans hz1), hpl, hft⟩
  refine ax_callVv (st := []) hC [.int (steps + 1)] x18 rfl (c_X4_reach l D z B lo _ h15 mt cm aF aG nr TF TG W a an (l0 / 128) l1 (steps + 1) hX25 hok hb1 hb2 hb3 hb4) (cwV 1 hC.1.2.2.2.2 gX4_draw_X4_reach rfl rfl rfl (by decide +kernel) ⟨Nat.le_of_ble_eq_true rfl, Nat.le_of_ble_eq_true rfl⟩) rfl rfl (Nat.le_of_ble_eq_true rfl) dX4_draw_51 ⟨Nat.le_of_ble_eq_true rfl, Nat.le_of_ble_eq_true rfl⟩ (fun hi26 h27 hp28 => ?_)
  obtain ⟨ei29, fr30, hX31⟩ := hp28
  replace ei29 := ei29.symm
  subst ei29
  obtain ⟨fo_32, most_32, over_32, pl_32, mv_32, sl_32, ft_32, tk_32, ats_32, lns_32, q0_32, q1_32, q2_32, q3_32, q4_32, q5_32, q6_32, q7_32, hfo_32, hov_32, hk0_32, hk1_32, hta_32, htb_32, hz0_32, hz1_32, hpl_32, hft_32⟩ := id hX31
  refine ax_aload_n hC 3 dX4_draw_54 rfl rfl ?_
  refine ax_getf (v := .ref (mt + 6)) hC q0_32 iX4 rfl 11 (by decide) (by decide +kernel) rfl rfl dX4_draw_55 ?_
  refine ax_iload_n hC 4 dX4_draw_58 rfl rfl ?_
  refine ax_iconst (v := 1) hC dX4_draw_59 (by decide) ?_
  refine ax_iand hC dX4_draw_60 ?_
  refine ax_eqi (y := 1) (by decide) ?_
  refine ax_iload hC 1 dX4_draw_61 rfl ?_
  have b33 : vp_in 1 2 := vp_in_iff.mpr (by decide)
  refine ax_iast hC q6_32 1 rfl b33 dX4_draw_63 (fun h34 e35 f36 => ?_)
  have x37 : h34 mt = some (.inr (6, [.int (nI fo_32), .int 0, .int 0, .int (-2), .int most_32, .ref cm, .ref (mt + 1), .ref (mt + 2), .ref (mt + 3), .ref (mt + 4), .ref (mt + 5), .ref (mt + 6), .ref (mt + 7), .int nr, .int over_32])) := (f36 _ (by omega)).trans q0_32
  have x38 : h34 (mt + 1) = some (.inl (z 2, 3000, .inr (.inl (pl_32)))) := (f36 _ (by omega)).trans q1_32
  have x39 : h34 (mt + 2) = some (.inl (z 1, 3000, .inl (mv_32))) := (f36 _ (by omega)).trans q2_32
  have x40 : h34 (mt + 3) = some (.inl (z 1, 8192, .inl (sl_32))) := (f36 _ (by omega)).trans q3_32
  have x41 : h34 (mt + 4) = some (.inl (z 0, 7200, .inl (ft_32))) := (f36 _ (by omega)).trans q4_32
  have x42 : h34 (mt + 5) = some (.inl (z 5, 2, .inr (.inr (.inr (.inr (tk_32)))))) := (f36 _ (by omega)).trans q5_32
  have x43 : h34 (mt + 7) = some (.inl (z 1, 2, .inl (lns_32))) := (f36 _ (by omega)).trans q7_32
  refine ax_aload_n hC 3 dX4_draw_64 rfl rfl ?_
  refine ax_getf (v := .ref (mt + 7)) hC x37 iX4 rfl 12 (by decide) (by decide +kernel) rfl rfl dX4_draw_65 ?_
  refine ax_iload hC 2 dX4_draw_68 rfl ?_
  refine ax_iload hC 0 dX4_draw_70 rfl ?_
  have b44 : vp_in 0 2 := vp_in_iff.mpr (by decide)
  refine ax_iast hC x43 1 rfl b44 dX4_draw_72 (fun h45 e46 f47 => ?_)
  have x48 : h45 mt = some (.inr (6, [.int (nI fo_32), .int 0, .int 0, .int (-2), .int most_32, .ref cm, .ref (mt + 1), .ref (mt + 2), .ref (mt + 3), .ref (mt + 4), .ref (mt + 5), .ref (mt + 6), .ref (mt + 7), .int nr, .int over_32])) := (f47 _ (by omega)).trans x37
  have x49 : h45 (mt + 1) = some (.inl (z 2, 3000, .inr (.inl (pl_32)))) := (f47 _ (by omega)).trans x38
  have x50 : h45 (mt + 2) = some (.inl (z 1, 3000, .inl (mv_32))) := (f47 _ (by omega)).trans x39
  have x51 : h45 (mt + 3) = some (.inl (z 1, 8192, .inl (sl_32))) := (f47 _ (by omega)).trans x40
  have x52 : h45 (mt + 4) = some (.inl (z 0, 7200, .inl (ft_32))) := (f47 _ (by omega)).trans x41
  have x53 : h45 (mt + 5) = some (.inl (z 5, 2, .inr (.inr (.inr (.inr (tk_32)))))) := (f47 _ (by omega)).trans x42
  have x54 : h45 (mt + 6) = some (.inl (z 1, 2, .inl (upd ats_32 (1 : Int32).toNatClampNeg (nI b)))) := (f47 _ (by omega)).trans e35
  refine ax_vret hC hr hlocks dX4_draw_73 ?_
  exact ⟨rfl, fun q hq => ((f47 q (by omega)).trans ((f36 q (by omega)).trans ((fr30 q (by omega)).trans ((f17 q (by omega)).trans (f6 q (by omega)))))), ⟨_, _, _, _, _, _, _, _, _, _, x48, x49, x50, x51, x52, x53, x54, e46, hfo_32, hov_32, hk0_32, hk1_32, ((ua10 _ _).trans hta_32), (ua11 _ _), (ua00 _ _), ((ua01 _ _).trans hz1_32), hpl_32, hft_32⟩⟩
