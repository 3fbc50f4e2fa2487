theorem mxI {a b : Nat} (ha : a < 2 ^ 31) (hb : b < 2 ^ 31) : (if nI a < nI b then nI b else nI a) = nI (max a b) := by
  by_cases e : a < b
  · rw [if_pos (nI_lt e hb), show max a b = b by omega]
  · rw [if_neg (nI_nlt (by omega) ha), show max a b = a by omega]
theorem mnI {a b : Nat} (h : a ≤ b) (hb : b < 2 ^ 31) : (if nI b < nI a then nI b else nI a) = nI a := if_neg (nI_nlt h hb)
theorem subI_le {a b : Nat} (ha : a ≤ 100000) (hb : b ≤ 100000) : nI a - nI b ≤ 0 ↔ a ≤ b := by
  by_cases e : b ≤ a
  · rw [nI_sub e, show (0 : Int32) = nI 0 from rfl, nI_leI (by omega) (by decide)]; omega
  · have e1 : nI a - nI b = -(nI (b - a)) := by rw [← nI_sub (by omega : a ≤ b), Int32.neg_sub]
    have e2 : (nI (b - a)).toInt = ((b - a : Nat) : Int) := nI_toInt (by omega)
    have e3 : (-(nI (b - a))).toInt = -((b - a : Nat) : Int) := by
      rw [Int32.toInt_neg, e2]
      exact Int.bmod_eq_of_le (by omega) (by omega)
    rw [e1, Int32.le_iff_toInt_le, e3]
    constructor
    · intro _; omega
    · intro _; show _ ≤ (0 : Int); omega
theorem ExB.upd {f' f : Nat → Int32} {n c9 : Nat} (h9 : c9 < 128) (hf : ∀ j, j < n → f' j = f j) : ∀ j, j < n + 1 → upd f' n (vp_nar .byte (nI c9)) j = if j < n then f j else nI c9 := by
  intro j hj
  by_cases e : j < n
  · rw [upd_ne _ _ _ (by omega), if_pos e]; exact hf j e
  · obtain rfl : j = n := by omega
    rw [upd_self, if_neg e]; exact (nI_255 _ h9).2.2.2.2.1
theorem BtT.keep {f' f : Nat → Int32} {t : List Nat} {cap : Nat} (hb : BtT f t) (hc : t.length ≤ cap) (hk : ∀ j, j < cap → f' j = f j) (hf : ∀ j, fits .byte (.int (f' j)) = true) : BtT f' t := ⟨fun j hj => by rw [hk j (by omega)]; exact hb.1 j hj, hf⟩
theorem BtT.put {f : Nat → Int32} {t : List Nat} {c9 : Nat} (hb : BtT f t) (h9 : c9 < 128) : BtT (upd f t.length (vp_nar .byte (nI c9))) (t ++ [c9]) := by
  refine ⟨fun j hj => ?_, fun j => ?_⟩
  · rw [List.length_append] at hj
    simp only [List.length_singleton] at hj
    by_cases e : j < t.length
    · rw [upd_ne _ _ _ (by omega), gD_l e]; exact hb.1 j e
    · obtain rfl : j = t.length := by omega
      rw [upd_self, gD_r (by omega), Nat.sub_self]
      exact ⟨(nI_255 _ h9).2.2.2.2.1, h9⟩
  · by_cases e : j = t.length
    · rw [e, upd_self, (nI_255 _ h9).2.2.2.2.1]; exact (nI_255 _ h9).2.2.2.2.2.1
    · rw [upd_ne _ _ _ e]; exact hb.2 j
abbrev rmJ5_init_d00df : Room := { frames := 1, cells := 1, slots := 16, locals := 40 }
set_option maxRecDepth 100000 in
set_option maxHeartbeats 4000000 in
theorem c_J5_init_d00df (l : Launch) (D : va_G) (z : Nat → ClassId) (B : Heap) (lo hi : Nat) (h : Nat → Option va_E) (kr kv : Nat → Nat) (ba : Nat) (hb : h ba = some (.inr (1, [.null, .int 0, .int 0, .int 0]))) : Met l yJ5_init_d00df wsJ5_init_d00df rmJ5_init_d00df (KPs D vwCl B lo hi h kr kv (ty6 z) [.ref ba, .int 16]) (KQv D vwCl B lo (ty6 z) (fun hi' h' => hi' = hi + 1 ∧ h' ba = some (.inr (1, [.ref hi, .int 0, .int 0, .int 0])) ∧ h' hi = some (.inl (z 0, 16, .inl (fun _ => 0))) ∧ ∀ q, q ≠ hi → q ≠ ba → h' q = h q)) 1 16 (fun q => lo ≤ q) := by
  refine ax_metS (by decide) rfl (Nat.le_of_ble_eq_true rfl) (L0 := [(0, .ref ba), (1, .int 16)]) rfl ?_
  intro p e s m args below meth c hC hX hr hlocks hnm hargs
  have iJ4 : ∀ w ∈ u_ws RJ4 TJ4 4, w ∈ wsJ5_init_d00df := by decide +kernel
  refine ax_tell hb (fun ta_0 => ?_)
  refine ax_aload_n hC 0 dJ5_init_d00df_0 rfl rfl ?_
  refine ax_objInit hC (by decide +kernel) (by decide +kernel) (by decide +kernel) dJ5_init_d00df_1 (Nat.le_of_ble_eq_true rfl) (Nat.le_of_ble_eq_true rfl) ?_
  refine ax_getsC hC hX (by decide +kernel) dJ5_init_d00df_4 ?_
  refine ax_if_eq (tgt := 25) hC dJ5_init_d00df_7 (by decide) (fun c1 => ?_) (fun c1 => ?_)
  · exact absurd c1 (by decide)
  · refine ax_aload_n hC 0 dJ5_init_d00df_10 rfl rfl ?_
    refine ax_iload_n hC 1 dJ5_init_d00df_11 rfl rfl ?_
    refine ax_newa (a0 := (16, .inl (fun _ => 0))) (N' := 16) hC 0 rfl (by decide +kernel) rfl (fun C q => by cases q) (fun cA => by first | rfl | simp [vp_cell, arrV, defaultValue]) (by decide) (by decide) (Nat.le_of_ble_eq_true rfl) (Nat.le_of_ble_eq_true rfl) (Nat.le_of_ble_eq_true rfl) dJ5_init_d00df_12 (fun h2 e3 f4 => ?_)
    have e3 : h2 hi = some (.inl (z 0, 16, .inl (fun _ => 0))) := e3
    have x5 : h2 ba = some (.inr (1, [.null, .int 0, .int 0, .int 0])) := (f4 _ (by omega)).trans hb
    refine ax_putf (v := .ref hi) (ty := .array .byte) hC tyJ4 x5 iJ4 tyJ4_ok nmJ4 rfl 0 (by decide) (by decide +kernel) rfl rfl (by decide +kernel) (rfl) rfl (Nat.le_of_ble_eq_true rfl) dJ5_init_d00df_14 (fun h6 e7 f8 => ?_)
    have e7 : h6 ba = some (.inr (1, [.ref hi, .int 0, .int 0, .int 0])) := e7
    have x9 : h6 hi = some (.inl (z 0, 16, .inl (fun _ => 0))) := (f8 _ (by omega)).trans e3
    refine ax_aload_n hC 0 dJ5_init_d00df_17 rfl rfl ?_
    refine ax_iconst (v := 0) hC dJ5_init_d00df_18 (by decide) ?_
    refine ax_putf (v := .int 0) (ty := .byte) hC tyJ4 e7 iJ4 tyJ4_ok nmJ4 rfl 1 (by decide) (by decide +kernel) rfl rfl (by decide +kernel) (rfl) rfl (Nat.le_of_ble_eq_true rfl) dJ5_init_d00df_19 (fun h10 e11 f12 => ?_)
    have e11 : h10 ba = some (.inr (1, [.ref hi, .int 0, .int 0, .int 0])) := e11
    have x13 : h10 hi = some (.inl (z 0, 16, .inl (fun _ => 0))) := (f12 _ (by omega)).trans x9
    refine ax_goto (tgt := 38) hC dJ5_init_d00df_22 (by decide) ?_
    refine ax_vret hC hr hlocks dJ5_init_d00df_38 ?_
    exact ⟨rfl, e11, x13, fun q hq hq2 =>  ((f12 q (by omega)).trans ((f8 q (by omega)).trans (f4 q (by omega))))⟩

abbrev rmJ4_init_da8c8 : Room := { frames := 2, cells := 1, slots := 16, locals := 61 }
set_option maxRecDepth 100000 in
set_option maxHeartbeats 4000000 in
theorem c_J4_init_da8c8 (l : Launch) (D : va_G) (z : Nat → ClassId) (B : Heap) (lo hi : Nat) (h : Nat → Option va_E) (kr kv : Nat → Nat) (ba : Nat) (hb : h ba = some (.inr (1, [.null, .int 0, .int 0, .int 0]))) : Met l yJ4_init_da8c8 wsJ4_init_da8c8 rmJ4_init_da8c8 (KPs D vwCl B lo hi h kr kv (ty6 z) [.ref ba]) (KQv D vwCl B lo (ty6 z) (fun hi' h' => hi' = hi + 1 ∧ h' ba = some (.inr (1, [.ref hi, .int 0, .int 0, .int 0])) ∧ h' hi = some (.inl (z 0, 16, .inl (fun _ => 0))) ∧ ∀ q, q ≠ hi → q ≠ ba → h' q = h q)) 1 16 (fun q => lo ≤ q) := by
  refine ax_metS (by decide) rfl (Nat.le_of_ble_eq_true rfl) (L0 := [(0, .ref ba)]) rfl ?_
  intro p e s m args below meth c hC hX hr hlocks hnm hargs
  refine ax_aload_n hC 0 dJ4_init_da8c8_0 rfl rfl ?_
  refine ax_bipush (v := 16) hC dJ4_init_da8c8_1 (by decide) ?_
  refine ax_sIv (st := []) hC hX [.int 16] (c_J5_init_d00df l D z B lo _ _ kr kv ba hb) (cwI 1 hC.1.2.2.2.2 gJ4_init_da8c8_J5_init_d00df rfl rfl rfl (hC.1.2.2.2.2 _ (by decide +kernel)) (hC.1.2.2.2.2 _ (by decide +kernel)) (hC.1.2.2.2.2 _ (by decide +kernel)) rfl (by decide +kernel) ⟨Nat.le_of_ble_eq_true rfl, Nat.le_of_ble_eq_true rfl⟩) rfl rfl (Nat.le_of_ble_eq_true rfl) dJ4_init_da8c8_3 ⟨Nat.le_of_ble_eq_true rfl, Nat.le_of_ble_eq_true rfl⟩ (fun hi1 h2 hp3 => ?_)
  obtain ⟨r_hi1, b_h2, v_h2, f_h2⟩ := hp3
  subst r_hi1
  refine ax_vret hC hr hlocks dJ4_init_da8c8_6 ?_
  exact ⟨rfl, b_h2, v_h2, f_h2⟩

abbrev rmJ8_newLength_cabcc : Room := { frames := 1, cells := 0, slots := 0, locals := 40 }
set_option maxRecDepth 100000 in
set_option maxHeartbeats 4000000 in
theorem c_J8_newLength_cabcc (l : Launch) (D : va_G) (z : Nat → ClassId) (B : Heap) (lo hi : Nat) (h : Nat → Option va_E) (kr kv : Nat → Nat) (g1 g2 g3 : Nat) (k1 : g1 ≤ 100000) (k2 : g2 ≤ 100000) (k3 : g3 ≤ 100000) (k4 : 0 < g2) : Met l yJ8_newLength_cabcc wsJ8_newLength_cabcc rmJ8_newLength_cabcc (KPs D vwCl B lo hi h kr kv (ty6 z) [.int (nI g1), .int (nI g2), .int (nI g3)]) (KQp D vwCl B lo hi h (ty6 z) (fun r => r = nI (g1 + max g2 g3))) 0 0 (fun q => lo ≤ q) := by
  refine ax_metS (by decide) rfl (Nat.le_of_ble_eq_true rfl) (L0 := [(0, .int (nI g1)), (1, .int (nI g2)), (2, .int (nI g3))]) rfl ?_
  intro p e s m args below meth c hC hX hr hlocks hnm hargs
  refine ax_iload_n hC 0 dJ8_newLength_cabcc_0 rfl rfl ?_
  refine ax_iload_n hC 1 dJ8_newLength_cabcc_1 rfl rfl ?_
  refine ax_iload_n hC 2 dJ8_newLength_cabcc_2 rfl rfl ?_
  refine ax_mmax hC (by decide +kernel) (by decide +kernel) (by decide +kernel) (by decide +kernel) (Nat.le_of_ble_eq_true rfl) (Nat.le_of_ble_eq_true rfl) (Nat.le_of_ble_eq_true rfl) (Nat.le_of_ble_eq_true rfl) dJ8_newLength_cabcc_3 ?_
  refine ax_eqi (y := nI (max g2 g3)) (mxI (by omega) (by omega)) ?_
  refine ax_iadd hC dJ8_newLength_cabcc_6 ?_
  refine ax_eqi (y := nI (g1 + max g2 g3)) (nI_add _ _) ?_
  refine ax_istore_n hC [(3, .int (nI (g1 + max g2 g3))), (0, .int (nI g1)), (1, .int (nI g2)), (2, .int (nI g3))] dJ8_newLength_cabcc_7 rfl (by decide) rfl ?_
  refine ax_iconst (v := 0) hC dJ8_newLength_cabcc_8 (by decide) ?_
  refine ax_iload_n hC 0 dJ8_newLength_cabcc_9 rfl rfl ?_
  refine ax_icmp_ge (tgt := 21) hC dJ8_newLength_cabcc_10 (by decide) (fun c1 => ?_) (fun c1 => ?_)
  · exact absurd c1 (nI_nle (by omega) (by omega))
  · refine ax_iload_n hC 0 dJ8_newLength_cabcc_13 rfl rfl ?_
    refine ax_ldc (v := (2147483639)) hC (by decide +kernel) dJ8_newLength_cabcc_14 ?_
    refine ax_icmp_gt (tgt := 21) hC dJ8_newLength_cabcc_16 (by decide) (fun c2 => ?_) (fun c2 => ?_)
    · exact absurd c2 (show ¬ nI 2147483639 < nI _ from nI_nlt (by omega) (by decide))
    · refine ax_iload_n hC 0 dJ8_newLength_cabcc_19 rfl rfl ?_
      refine ax_iret hC hr hlocks dJ8_newLength_cabcc_20 ?_
      exact ⟨rfl, rfl, rfl⟩

abbrev rmJ5_newCapacity_0f7a4 : Room := { frames := 2, cells := 0, slots := 0, locals := 63 }
set_option maxRecDepth 100000 in
set_option maxHeartbeats 4000000 in
theorem c_J5_newCapacity_0f7a4 (l : Launch) (D : va_G) (z : Nat → ClassId) (B : Heap) (lo hi : Nat) (h : Nat → Option va_E) (kr kv : Nat → Nat) (ba wa : Nat) (ml kk : Int32) (cap : Nat) (f : Nat → Int32) (nd : Nat) (hb : h ba = some (.inr (1, [.ref wa, .int 0, .int ml, .int kk]))) (hv : h wa = some (.inl (z 0, cap, .inl f))) (hn : cap < nd) (hm : nd ≤ 1000) : Met l yJ5_newCapacity_0f7a4 wsJ5_newCapacity_0f7a4 rmJ5_newCapacity_0f7a4 (KPs D vwCl B lo hi h kr kv (ty6 z) [.ref ba, .int (nI nd)]) (KQp D vwCl B lo hi h (ty6 z) (fun r => r = nI (cap + max (nd - cap) (cap + 2)))) 0 0 (fun q => lo ≤ q) := by
  refine ax_metS (by decide) rfl (Nat.le_of_ble_eq_true rfl) (L0 := [(0, .ref ba), (1, .int (nI nd))]) rfl ?_
  intro p e s m args below meth c hC hX hr hlocks hnm hargs
  have iJ4 : ∀ w ∈ u_ws RJ4 TJ4 4, w ∈ wsJ5_newCapacity_0f7a4 := by decide +kernel
  refine ax_aload_n hC 0 dJ5_newCapacity_0f7a4_0 rfl rfl ?_
  refine ax_getf (v := .ref wa) hC hb iJ4 rfl 0 (by decide) (by decide +kernel) rfl rfl dJ5_newCapacity_0f7a4_1 ?_
  refine ax_alen (v := nI cap) hC hv 0 rfl rfl dJ5_newCapacity_0f7a4_4 ?_
  refine ax_istore_n hC [(2, .int (nI cap)), (0, .ref ba), (1, .int (nI nd))] dJ5_newCapacity_0f7a4_5 rfl (by decide) rfl ?_
  refine ax_iload_n hC 2 dJ5_newCapacity_0f7a4_6 rfl rfl ?_
  refine ax_aload_n hC 1 dJ5_newCapacity_0f7a4_7 rfl rfl ?_
  refine ax_getf (v := .int 0) hC hb iJ4 rfl 1 (by decide) (by decide +kernel) rfl rfl dJ5_newCapacity_0f7a4_8 ?_
  refine ax_ishl hC dJ5_newCapacity_0f7a4_11 ?_
  refine ax_eqi (y := nI nd) (shl0 _) ?_
  refine ax_istore_n hC [(3, .int (nI nd)), (2, .int (nI cap)), (0, .ref ba), (1, .int (nI nd))] dJ5_newCapacity_0f7a4_12 rfl (by decide) rfl ?_
  refine ax_iload_n hC 0 dJ5_newCapacity_0f7a4_13 rfl rfl ?_
  refine ax_iload_n hC 1 dJ5_newCapacity_0f7a4_14 rfl rfl ?_
  refine ax_isub hC dJ5_newCapacity_0f7a4_15 ?_
  refine ax_eqi (y := nI (nd - cap)) (nI_sub (by omega)) ?_
  refine ax_istore hC [(4, .int (nI (nd - cap))), (3, .int (nI nd)), (2, .int (nI cap)), (0, .ref ba), (1, .int (nI nd))] dJ5_newCapacity_0f7a4_16 (by decide) rfl ?_
  refine ax_iload_n hC 2 dJ5_newCapacity_0f7a4_18 rfl rfl ?_
  refine ax_iload hC 0 dJ5_newCapacity_0f7a4_19 rfl ?_
  refine ax_iload_n hC 2 dJ5_newCapacity_0f7a4_21 rfl rfl ?_
  refine ax_iconst (v := 2) hC dJ5_newCapacity_0f7a4_22 (by decide) ?_
  refine ax_aload_n hC 3 dJ5_newCapacity_0f7a4_23 rfl rfl ?_
  refine ax_getf (v := .int 0) hC hb iJ4 rfl 1 (by decide) (by decide +kernel) rfl rfl dJ5_newCapacity_0f7a4_24 ?_
  refine ax_ishl hC dJ5_newCapacity_0f7a4_27 ?_
  refine ax_eqi (y := 2) (shl0 _) ?_
  refine ax_iadd hC dJ5_newCapacity_0f7a4_28 ?_
  refine ax_eqi (y := nI (cap + 2)) (nI_add cap 2) ?_
  refine ax_sSp (st := []) hC hX [.int (nI cap), .int (nI (nd - cap)), .int (nI (cap + 2))] (c_J8_newLength_cabcc l D z B lo _ _ kr kv cap (nd - cap) (cap + 2) (by omega) (by omega) (by omega) (by omega)) (va_cwS 3 hC.1.2.2.2.2 gJ5_newCapacity_0f7a4_J8_newLength_cabcc rfl rfl rfl (by decide +kernel) ⟨Nat.le_of_ble_eq_true rfl, Nat.le_of_ble_eq_true rfl⟩) rfl rfl (Nat.le_of_ble_eq_true rfl) dJ5_newCapacity_0f7a4_29 ⟨Nat.le_of_ble_eq_true rfl, Nat.le_of_ble_eq_true rfl⟩ (fun r1 er2 => ?_)
  subst er2
  refine ax_istore hC [(5, .int (nI (cap + max (nd - cap) (cap + 2)))), (4, .int (nI (nd - cap))), (3, .int (nI nd)), (2, .int (nI cap)), (0, .ref ba), (1, .int (nI nd))] dJ5_newCapacity_0f7a4_32 (by decide) rfl ?_
  refine ax_iload hC 0 dJ5_newCapacity_0f7a4_34 rfl ?_
  refine ax_ldc (v := (2147483647)) hC (by decide +kernel) dJ5_newCapacity_0f7a4_36 ?_
  refine ax_icmp_ne (tgt := 51) hC dJ5_newCapacity_0f7a4_38 (by decide) (fun c3 => ?_) (fun c3 => ?_)
  · refine ax_iload hC 0 dJ5_newCapacity_0f7a4_51 rfl ?_
    refine ax_aload_n hC 4 dJ5_newCapacity_0f7a4_53 rfl rfl ?_
    refine ax_getf (v := .int 0) hC hb iJ4 rfl 1 (by decide) (by decide +kernel) rfl rfl dJ5_newCapacity_0f7a4_54 ?_
    refine ax_ishr hC dJ5_newCapacity_0f7a4_57 ?_
    refine ax_eqi (y := nI (cap + max (nd - cap) (cap + 2))) (shr0 _) ?_
    refine ax_iret hC hr hlocks dJ5_newCapacity_0f7a4_58 ?_
    exact ⟨rfl, rfl, rfl⟩
  · exact absurd ((nI_eq (by omega) (by decide)).mp (show nI (cap + max (nd - cap) (cap + 2)) = nI 2147483647 from c3)) (by omega)

theorem cpyfit {f : Nat → Int32} {n : Nat} (hf : ∀ j, fits .byte (.int (f j)) = true) : ∀ j, fits .byte (.int (va_cpy f (fun _ => 0) 0 0 n j)) = true := by
  intro j
  unfold va_cpy
  split
  · exact hf _
  · rfl
theorem fitsB {cA : ClassId} {n i : Nat} {f : Nat → Int32} {v : Value} (hf : ∀ j, fits .byte (.int (f j)) = true) (hv : (vp_cell cA (n, .inl f)).slots[i]? = some v) : fits .byte v = true := by
  have h2 : (arrV cA n (fun j => Value.int (f j))).slots[i]? = some v := hv
  by_cases hi : i < n
  · rw [arrV_read _ _ hi] at h2
    cases h2; exact hf _
  · rw [Array.getElem?_eq_none (by rw [arrV_size]; omega)] at h2
    cases h2
abbrev rmJ7_copyOf_9075b : Room := { frames := 1, cells := 1, slots := 256, locals := 40 }
set_option maxRecDepth 100000 in
set_option maxHeartbeats 4000000 in
theorem c_J7_copyOf_9075b (l : Launch) (D : va_G) (z : Nat → ClassId) (B : Heap) (lo hi : Nat) (h : Nat → Option va_E) (kr kv : Nat → Nat) (wa cap : Nat) (f : Nat → Int32) (nd : Nat) (hv : h wa = some (.inl (z 0, cap, .inl f))) (hf : ∀ j, fits .byte (.int (f j)) = true) (hn : cap < nd) (hm : nd ≤ 256) : Met l yJ7_copyOf_9075b wsJ7_copyOf_9075b rmJ7_copyOf_9075b (KPs D vwCl B lo hi h kr kv (ty6 z) [.ref wa, .int (nI nd)]) (KQq D vwCl B lo (ty6 z) (fun r hi' h' => hi' = hi + 1 ∧ (∀ q, q ≠ hi → h' q = h q) ∧ r = some hi ∧ ∃ f', h' hi = some (.inl (z 0, nd, .inl f')) ∧ (∀ j, j < cap → f' j = f j) ∧ ∀ j, fits .byte (.int (f' j)) = true)) 1 256 (fun q => lo ≤ q) := by
  refine ax_metS (by decide) rfl (Nat.le_of_ble_eq_true rfl) (L0 := [(0, .ref wa), (1, .int (nI nd))]) rfl ?_
  intro p e s m args below meth c hC hX hr hlocks hnm hargs
  refine ax_tell hv (fun ta_0 => ?_)
  refine ax_iload_n hC 1 dJ7_copyOf_9075b_0 rfl rfl ?_
  refine ax_aload_n hC 0 dJ7_copyOf_9075b_1 rfl rfl ?_
  refine ax_alen (v := nI cap) hC hv 0 rfl rfl dJ7_copyOf_9075b_2 ?_
  refine ax_icmp_ne (tgt := 14) hC dJ7_copyOf_9075b_3 (by decide) (fun c1 => ?_) (fun c1 => ?_)
  · refine ax_iload_n hC 1 dJ7_copyOf_9075b_14 rfl rfl ?_
    refine ax_newa (a0 := (nd, .inl (fun _ => 0))) (N' := nd) hC 0 rfl (by decide +kernel) rfl (fun C q => by cases q) (fun cA => by first | rfl | simp [vp_cell, arrV, defaultValue]) (nI_pos (by omega)) (nI_clamp (by omega)) (show nd * 1 ≤ 536870912 by omega) (Nat.le_of_ble_eq_true rfl) (show 0 + nd ≤ 256 by omega) dJ7_copyOf_9075b_15 (fun h2 e3 f4 => ?_)
    have e3 : h2 hi = some (.inl (z 0, nd, .inl (fun _ => 0))) := e3
    have x5 : h2 wa = some (.inl (z 0, cap, .inl (f))) := (f4 _ (by omega)).trans hv
    refine ax_astore_n hC [(2, .ref hi), (0, .ref wa), (1, .int (nI nd))] dJ7_copyOf_9075b_17 rfl (by decide) rfl ?_
    refine ax_aload_n hC 1 dJ7_copyOf_9075b_18 rfl rfl ?_
    refine ax_iconst (v := 0) hC dJ7_copyOf_9075b_19 (by decide) ?_
    refine ax_aload_n hC 0 dJ7_copyOf_9075b_20 rfl rfl ?_
    refine ax_iconst (v := 0) hC dJ7_copyOf_9075b_21 (by decide) ?_
    refine ax_aload_n hC 1 dJ7_copyOf_9075b_22 rfl rfl ?_
    refine ax_alen (v := nI cap) hC x5 0 rfl rfl dJ7_copyOf_9075b_23 ?_
    refine ax_iload_n hC 2 dJ7_copyOf_9075b_24 rfl rfl ?_
    refine ax_mmin hC (by decide +kernel) (by decide +kernel) (by decide +kernel) (by decide +kernel) (Nat.le_of_ble_eq_true rfl) (Nat.le_of_ble_eq_true rfl) (Nat.le_of_ble_eq_true rfl) (show 0 + nd ≤ 256 by omega) dJ7_copyOf_9075b_25 ?_
    refine ax_eqi (y := nI cap) (mnI (by omega) (by omega)) ?_
    refine ax_copyA hC (by decide +kernel) (by decide +kernel) (by decide +kernel) (by decide +kernel) x5 e3 0 0 rfl rfl rfl (by decide) (by decide) (nI_pos (by omega)) (show 0 + (nI cap).toNatClampNeg ≤ _ by rw [nI_clamp (by omega)]; omega) (show 0 + (nI cap).toNatClampNeg ≤ _ by rw [nI_clamp (by omega)]; omega) (fun i _ => hf _) (Nat.le_of_ble_eq_true rfl) (Nat.le_of_ble_eq_true rfl) dJ7_copyOf_9075b_28 (fun h6 e7 f8 => ?_)
    rw [nI_clamp (by omega)] at e7
    have x9 : h6 wa = some (.inl (z 0, cap, .inl (f))) := (f8 _ (by omega)).trans x5
    refine ax_aload_n hC 0 dJ7_copyOf_9075b_31 rfl rfl ?_
    refine ax_widen (k := 1) (n := 256) (by omega) (by omega) ?_
    refine ax_aretA hC (some hi) hr hlocks dJ7_copyOf_9075b_32 ?_
    exact ⟨rfl, fun q hq => ((f8 q (by omega)).trans (f4 q (by omega))), rfl, _, e7, fun j hj => cpy0 hj, cpyfit hf⟩
  · exact absurd ((nI_eq (by omega) (by omega)).mp c1) (by omega)

abbrev rmJ5_ensureCapacityInternal_d00df : Room := { frames := 3, cells := 1, slots := 256, locals := 88 }
set_option maxRecDepth 100000 in
set_option maxHeartbeats 4000000 in
theorem c_J5_ensureCapacityInternal_d00df (l : Launch) (D : va_G) (z : Nat → ClassId) (B : Heap) (lo hi : Nat) (h : Nat → Option va_E) (kr kv : Nat → Nat) (ba wa : Nat) (ml kk : Int32) (cap : Nat) (f : Nat → Int32) (nd : Nat) (hb : h ba = some (.inr (1, [.ref wa, .int 0, .int ml, .int kk]))) (hv : h wa = some (.inl (z 0, cap, .inl f))) (hf : ∀ j, fits .byte (.int (f j)) = true) (hn : cap ≤ 256) (hm : nd ≤ 120) (hne : ba ≠ wa) : Met l yJ5_ensureCapacityInternal_d00df wsJ5_ensureCapacityInternal_d00df rmJ5_ensureCapacityInternal_d00df (KPs D vwCl B lo hi h kr kv (ty6 z) [.ref ba, .int (nI nd)]) (KQv D vwCl B lo (ty6 z) (fun hi' h' => ∃ (v' cap' : Nat) (f' : Nat → Int32), h' ba = some (.inr (1, [.ref v', .int 0, .int ml, .int kk])) ∧ h' v' = some (.inl (z 0, cap', .inl f')) ∧ nd ≤ cap' ∧ cap ≤ cap' ∧ (cap' = cap ∨ cap' ≤ 2 * nd) ∧ (∀ j, j < cap → f' j = f j) ∧ (∀ j, fits .byte (.int (f' j)) = true) ∧ (v' = wa ∨ v' = hi) ∧ hi ≤ hi' ∧ hi' ≤ hi + 1 ∧ v' < hi' ∧ ∀ q, q < hi → q ≠ ba → h' q = h q)) 1 256 (fun q => lo ≤ q) := by
  refine ax_metS (by decide) rfl (Nat.le_of_ble_eq_true rfl) (L0 := [(0, .ref ba), (1, .int (nI nd))]) rfl ?_
  intro p e s m args below meth c hC hX hr hlocks hnm hargs
  have iJ4 : ∀ w ∈ u_ws RJ4 TJ4 4, w ∈ wsJ5_ensureCapacityInternal_d00df := by decide +kernel
  refine ax_tell hb (fun ta_0 => ?_)
  refine ax_tell hv (fun ta_1 => ?_)
  refine ax_aload_n hC 0 dJ5_ensureCapacityInternal_d00df_0 rfl rfl ?_
  refine ax_getf (v := .ref wa) hC hb iJ4 rfl 0 (by decide) (by decide +kernel) rfl rfl dJ5_ensureCapacityInternal_d00df_1 ?_
  refine ax_alen (v := nI cap) hC hv 0 rfl rfl dJ5_ensureCapacityInternal_d00df_4 ?_
  refine ax_aload_n hC 0 dJ5_ensureCapacityInternal_d00df_5 rfl rfl ?_
  refine ax_getf (v := .int 0) hC hb iJ4 rfl 1 (by decide) (by decide +kernel) rfl rfl dJ5_ensureCapacityInternal_d00df_6 ?_
  refine ax_ishr hC dJ5_ensureCapacityInternal_d00df_9 ?_
  refine ax_eqi (y := nI cap) (shr0 _) ?_
  refine ax_istore_n hC [(2, .int (nI cap)), (0, .ref ba), (1, .int (nI nd))] dJ5_ensureCapacityInternal_d00df_10 rfl (by decide) rfl ?_
  refine ax_iload_n hC 2 dJ5_ensureCapacityInternal_d00df_11 rfl rfl ?_
  refine ax_iload_n hC 0 dJ5_ensureCapacityInternal_d00df_12 rfl rfl ?_
  refine ax_isub hC dJ5_ensureCapacityInternal_d00df_13 ?_
  refine ax_if_le (tgt := 38) hC dJ5_ensureCapacityInternal_d00df_14 (by decide) (fun c1 => ?_) (fun c1 => ?_)
  · have k1 := (subI_le (by omega) (by omega)).mp c1
    refine ax_widen (k := 1) (n := 256) (by omega) (by omega) ?_
    refine ax_vret hC hr hlocks dJ5_ensureCapacityInternal_d00df_38 ?_
    exact ⟨_, _, _, hb, hv, by omega, by omega, Or.inl rfl, fun _ _ => rfl, hf, Or.inl rfl, by omega, by omega, by omega, fun q _ _ => rfl⟩
  · have k1 := mt (subI_le (by omega) (by omega)).mpr c1
    refine ax_aload_n hC 1 dJ5_ensureCapacityInternal_d00df_17 rfl rfl ?_
    refine ax_aload_n hC 1 dJ5_ensureCapacityInternal_d00df_18 rfl rfl ?_
    refine ax_getf (v := .ref wa) hC hb iJ4 rfl 0 (by decide) (by decide +kernel) rfl rfl dJ5_ensureCapacityInternal_d00df_19 ?_
    refine ax_aload_n hC 1 dJ5_ensureCapacityInternal_d00df_22 rfl rfl ?_
    refine ax_iload_n hC 2 dJ5_ensureCapacityInternal_d00df_23 rfl rfl ?_
    refine ax_sUp (st := [.ref wa, .ref ba]) hC hX [.int (nI nd)] (rc_h hC hb rfl) (c_J5_newCapacity_0f7a4 l D z B lo _ _ kr kv ba _ _ _ _ _ nd hb hv (by omega) (by omega)) (va_cwU 1 hC.1.2.2.2.2 gJ5_ensureCapacityInternal_d00df_J5_newCapacity_0f7a4_u104J4 rfl rfl rfl rfl (by decide +kernel) ⟨Nat.le_of_ble_eq_true rfl, Nat.le_of_ble_eq_true rfl⟩) rfl rfl (Nat.le_of_ble_eq_true rfl) dJ5_ensureCapacityInternal_d00df_24 ⟨Nat.le_of_ble_eq_true rfl, Nat.le_of_ble_eq_true rfl⟩ (fun r1 er2 => ?_)
    subst er2
    refine ax_aload_n hC 1 dJ5_ensureCapacityInternal_d00df_27 rfl rfl ?_
    refine ax_getf (v := .int 0) hC hb iJ4 rfl 1 (by decide) (by decide +kernel) rfl rfl dJ5_ensureCapacityInternal_d00df_28 ?_
    refine ax_ishl hC dJ5_ensureCapacityInternal_d00df_31 ?_
    refine ax_eqi (y := nI (cap + max (nd - cap) (cap + 2))) (shl0 _) ?_
    refine ax_sSq (st := [.ref ba]) hC hX [.ref wa, .int (nI (cap + max (nd - cap) (cap + 2)))] (c_J7_copyOf_9075b l D z B lo _ _ kr kv wa _ _ ((cap + max (nd - cap) (cap + 2))) hv hf (by omega) (by omega)) (va_cwS 2 hC.1.2.2.2.2 gJ5_ensureCapacityInternal_d00df_J7_copyOf_9075b rfl rfl rfl (by decide +kernel) ⟨Nat.le_of_ble_eq_true rfl, Nat.le_of_ble_eq_true rfl⟩) rfl rfl (Nat.le_of_ble_eq_true rfl) dJ5_ensureCapacityInternal_d00df_32 ⟨Nat.le_of_ble_eq_true rfl, Nat.le_of_ble_eq_true rfl⟩ (fun r3 hi4 h5 hp6 => ?_)
    obtain ⟨i_h5, f_h5, rfl, g_h5, v_h5, k_h5, t_h5⟩ := hp6
    subst i_h5
    have x7 : h5 ba = some (.inr (1, [.ref wa, .int 0, .int ml, .int kk])) := (f_h5 _ (by omega)).trans hb
    have x8 : h5 wa = some (.inl (z 0, cap, .inl (f))) := (f_h5 _ (by omega)).trans hv
    refine ax_putf (v := .ref hi) (ty := .array .byte) hC tyJ4 x7 iJ4 tyJ4_ok nmJ4 rfl 0 (by decide) (by decide +kernel) rfl rfl (by decide +kernel) (rfl) rfl (Nat.le_of_ble_eq_true rfl) dJ5_ensureCapacityInternal_d00df_35 (fun h9 e10 f11 => ?_)
    have e10 : h9 ba = some (.inr (1, [.ref hi, .int 0, .int ml, .int kk])) := e10
    have x12 : h9 wa = some (.inl (z 0, cap, .inl (f))) := (f11 _ (by omega)).trans x8
    have x13 : h9 hi = some (.inl (z 0, ((cap + max (nd - cap) (cap + 2))), .inl (g_h5))) := (f11 _ (by omega)).trans v_h5
    refine ax_widen (k := 1) (n := 256) (by omega) (by omega) ?_
    refine ax_vret hC hr hlocks dJ5_ensureCapacityInternal_d00df_38 ?_
    exact ⟨_, _, _, e10, x13, by omega, by omega, Or.inr (by omega), k_h5, t_h5, Or.inr rfl, by omega, by omega, by omega, fun q hq hq2 =>  ((f11 q (by omega)).trans (f_h5 q (by omega)))⟩

abbrev rmJ5_putStringAt_47b60 : Room := { frames := 2, cells := 0, slots := 0, locals := 63 }
set_option maxRecDepth 100000 in
set_option maxHeartbeats 4000000 in
theorem c_J5_putStringAt_47b60 (l : Launch) (D : va_G) (z : Nat → ClassId) (B : Heap) (lo hi : Nat) (h : Nat → Option va_E) (kr kv : Nat → Nat) (ba wa : Nat) (ml kk : Int32) (cap : Nat) (f : Nat → Int32) (sa va nn : Nat) (tx : List Nat) (hb : h ba = some (.inr (1, [.ref wa, .int 0, .int ml, .int kk]))) (hv : h wa = some (.inl (z 0, cap, .inl f))) (hs : StV kr kv h sa va) (ht : ByA z kv h va tx) (hl : tx.length ≤ 1000) (hd : nn + tx.length ≤ cap) (hc : cap ≤ 100000) (hne : ba ≠ wa) : Met l yJ5_putStringAt_47b60 wsJ5_putStringAt_47b60 rmJ5_putStringAt_47b60 (KPs D vwCl B lo hi h kr kv (ty6 z) [.ref ba, .int (nI nn), .ref sa]) (KQv D vwCl B lo (ty6 z) (fun hi' h' => hi' = hi ∧ (∃ g : Nat → Int32, h' wa = some (.inl (z 0, cap, .inl g)) ∧ ExB g f nn tx) ∧ ∀ q, q ≠ wa → h' q = h q)) 0 0 (fun q => lo ≤ q) := by
  refine ax_metS (by decide) rfl (Nat.le_of_ble_eq_true rfl) (L0 := [(0, .ref ba), (1, .int (nI nn)), (2, .ref sa)]) rfl ?_
  intro p e s m args below meth c hC hX hr hlocks hnm hargs
  have iJ4 : ∀ w ∈ u_ws RJ4 TJ4 4, w ∈ wsJ5_putStringAt_47b60 := by decide +kernel
  refine ax_aload_n hC 0 dJ5_putStringAt_47b60_0 rfl rfl ?_
  refine ax_aload_n hC 2 dJ5_putStringAt_47b60_1 rfl rfl ?_
  refine ax_sUn (st := []) hC hX [.ref sa] (rc_h hC hb rfl) (c_J5_inflateIfNeededFor_a7421 l D z B lo _ _ kr kv ba _ _ _ sa _ hb hs) (va_cwU 1 hC.1.2.2.2.2 gJ5_putStringAt_47b60_J5_inflateIfNeededFor_a7421_u397J4 rfl rfl rfl rfl (by decide +kernel) ⟨Nat.le_of_ble_eq_true rfl, Nat.le_of_ble_eq_true rfl⟩) rfl rfl (Nat.le_of_ble_eq_true rfl) dJ5_putStringAt_47b60_2 ⟨Nat.le_of_ble_eq_true rfl, Nat.le_of_ble_eq_true rfl⟩ ?_
  refine ax_aload_n hC 2 dJ5_putStringAt_47b60_5 rfl rfl ?_
  refine ax_aload_n hC 0 dJ5_putStringAt_47b60_6 rfl rfl ?_
  refine ax_getf (v := .ref wa) hC hb iJ4 rfl 0 (by decide) (by decide +kernel) rfl rfl dJ5_putStringAt_47b60_7 ?_
  refine ax_iload_n hC 1 dJ5_putStringAt_47b60_10 rfl rfl ?_
  refine ax_aload_n hC 0 dJ5_putStringAt_47b60_11 rfl rfl ?_
  refine ax_getf (v := .int 0) hC hb iJ4 rfl 1 (by decide) (by decide +kernel) rfl rfl dJ5_putStringAt_47b60_12 ?_
  refine ax_sVv (st := []) hC hX [.ref wa, .int (nI nn), .int 0] (rc_s hC hX hs rfl) (c_J0_getBytes_840e7 l D z B lo _ _ kr kv sa _ wa nn _ _ _ hs ht (by omega) hv (by omega) (by omega)) (cwV 3 hC.1.2.2.2.2 gJ5_putStringAt_47b60_J0_getBytes_840e7 rfl rfl rfl (by decide +kernel) ⟨Nat.le_of_ble_eq_true rfl, Nat.le_of_ble_eq_true rfl⟩) rfl rfl (Nat.le_of_ble_eq_true rfl) dJ5_putStringAt_47b60_15 ⟨Nat.le_of_ble_eq_true rfl, Nat.le_of_ble_eq_true rfl⟩ (fun hi1 h2 hp3 => ?_)
  obtain ⟨i_h2, ⟨g_h2, v_h2, x_h2⟩, f_h2⟩ := hp3
  subst i_h2
  have x4 : h2 ba = some (.inr (1, [.ref wa, .int 0, .int ml, .int kk])) := (f_h2 _ (by omega)).trans hb
  refine ax_vret hC hr hlocks dJ5_putStringAt_47b60_18 ?_
  exact ⟨rfl, ⟨_, v_h2, x_h2⟩, fun q hq => (f_h2 q (by omega))⟩

abbrev rmJ5_append_cf1ce : Room := { frames := 4, cells := 1, slots := 256, locals := 110 }
set_option maxRecDepth 100000 in
set_option maxHeartbeats 4000000 in
theorem c_J5_append_cf1ce (l : Launch) (D : va_G) (z : Nat → ClassId) (B : Heap) (lo hi : Nat) (h : Nat → Option va_E) (kr kv : Nat → Nat) (ba wa : Nat) (tb : List Nat) (sa va : Nat) (tx : List Nat) (hsb : SbA z h ba wa tb) (hs : StV kr kv h sa va) (ht : ByA z kv h va tx) (hl : tx.length ≤ 1000) (hm : tb.length + tx.length ≤ 110) (hd1 : sa < hi) (hd2 : va < hi) (hd3 : sa ≠ ba) (hd4 : va ≠ ba) : Met l yJ5_append_cf1ce wsJ5_append_cf1ce rmJ5_append_cf1ce (KPs D vwCl B lo hi h kr kv (ty6 z) [.ref ba, .ref sa]) (KQq D vwCl B lo (ty6 z) (fun r hi' h' => r = some ba ∧ (∃ v', SbA z h' ba v' (tb ++ tx) ∧ (v' = wa ∨ v' = hi) ∧ v' < hi') ∧ hi ≤ hi' ∧ hi' ≤ hi + 1 ∧ ∀ q, q < hi → q ≠ ba → q ≠ wa → h' q = h q)) 1 256 (fun q => lo ≤ q) := by
  obtain ⟨ml, cap, f, hb, hv, hk1, hk2, hk3⟩ := hsb
  have hf := hk3.2
  have hne : ba ≠ wa := fun e => by rw [e, hv] at hb; cases hb
  refine ax_metS (by decide) rfl (Nat.le_of_ble_eq_true rfl) (L0 := [(0, .ref ba), (1, .ref sa)]) rfl ?_
  intro p e s m args below meth c hC hX hr hlocks hnm hargs
  have iJ4 : ∀ w ∈ u_ws RJ4 TJ4 4, w ∈ wsJ5_append_cf1ce := by decide +kernel
  refine ax_tell hb (fun ta_0 => ?_)
  refine ax_tell hv (fun ta_1 => ?_)
  refine ax_aload_n hC 1 dJ5_append_cf1ce_0 rfl rfl ?_
  refine ax_ifnonnull (tgt := 9) hC dJ5_append_cf1ce_1 (by decide) ?_
  refine ax_aload_n hC 1 dJ5_append_cf1ce_9 rfl rfl ?_
  refine ax_sVp (st := []) hC hX [] (rc_s hC hX hs rfl) (c_J0_length_8abf5 l D z B lo _ _ kr kv sa _ _ hs ht (by omega)) (cwV 0 hC.1.2.2.2.2 gJ5_append_cf1ce_J0_length_8abf5 rfl rfl rfl (by decide +kernel) ⟨Nat.le_of_ble_eq_true rfl, Nat.le_of_ble_eq_true rfl⟩) rfl rfl (Nat.le_of_ble_eq_true rfl) dJ5_append_cf1ce_10 ⟨Nat.le_of_ble_eq_true rfl, Nat.le_of_ble_eq_true rfl⟩ (fun r1 er2 => ?_)
  subst er2
  refine ax_istore_n hC [(2, .int (nI tx.length)), (0, .ref ba), (1, .ref sa)] dJ5_append_cf1ce_13 rfl (by decide) rfl ?_
  refine ax_aload_n hC 1 dJ5_append_cf1ce_14 rfl rfl ?_
  refine ax_aload_n hC 1 dJ5_append_cf1ce_15 rfl rfl ?_
  refine ax_getf (v := .int (nI tb.length)) hC hb iJ4 rfl 3 (by decide) (by decide +kernel) rfl rfl dJ5_append_cf1ce_16 ?_
  refine ax_iload_n hC 0 dJ5_append_cf1ce_19 rfl rfl ?_
  refine ax_iadd hC dJ5_append_cf1ce_20 ?_
  refine ax_eqi (y := nI (tb.length + tx.length)) (nI_add _ _) ?_
  refine ax_sUv (st := []) hC hX [.int (nI (tb.length + tx.length))] (rc_h hC hb rfl) (c_J5_ensureCapacityInternal_d00df l D z B lo _ _ kr kv ba _ _ _ _ _ (tb.length + tx.length) hb hv hf (by omega) (by omega) (by omega)) (va_cwU 1 hC.1.2.2.2.2 gJ5_append_cf1ce_J5_ensureCapacityInternal_d00df_u100J4 rfl rfl rfl rfl (by decide +kernel) ⟨Nat.le_of_ble_eq_true rfl, Nat.le_of_ble_eq_true rfl⟩) rfl rfl (Nat.le_of_ble_eq_true rfl) dJ5_append_cf1ce_21 ⟨Nat.le_of_ble_eq_true rfl, Nat.le_of_ble_eq_true rfl⟩ (fun hi3 h4 hp5 => ?_)
  obtain ⟨w_h4, c_h4, g_h4, b_h4, v_h4, k1_h4, k2_h4, k3_h4, k4_h4, k5_h4, k6_h4, i1_h4, i2_h4, i3_h4, f_h4⟩ := hp5
  have sv6 : StV kr kv h4 sa va := hs.kept (f_h4 _ (by omega) (by omega))
  have by7 : ByA z kv h4 va tx := ht.kept (f_h4 _ (by omega) (by omega))
  have n_h4 : ba ≠ w_h4 := fun e => by rw [e, v_h4] at b_h4; cases b_h4
  refine ax_aload_n hC 1 dJ5_append_cf1ce_24 rfl rfl ?_
  refine ax_aload_n hC 1 dJ5_append_cf1ce_25 rfl rfl ?_
  refine ax_getf (v := .int (nI tb.length)) hC b_h4 iJ4 rfl 3 (by decide) (by decide +kernel) rfl rfl dJ5_append_cf1ce_26 ?_
  refine ax_aload_n hC 2 dJ5_append_cf1ce_29 rfl rfl ?_
  refine ax_sUv (st := []) hC hX [.int (nI tb.length), .ref sa] (rc_h hC b_h4 rfl) (c_J5_putStringAt_47b60 l D z B lo _ _ kr kv ba _ _ _ _ _ sa _ tb.length _ b_h4 v_h4 sv6 by7 (by omega) (by omega) (by omega) (by omega)) (va_cwU 2 hC.1.2.2.2.2 gJ5_append_cf1ce_J5_putStringAt_47b60_u208J4 rfl rfl rfl rfl (by decide +kernel) ⟨Nat.le_of_ble_eq_true rfl, Nat.le_of_ble_eq_true rfl⟩) rfl rfl (Nat.le_of_ble_eq_true rfl) dJ5_append_cf1ce_30 ⟨Nat.le_of_ble_eq_true rfl, Nat.le_of_ble_eq_true rfl⟩ (fun hi8 h9 hp10 => ?_)
  obtain ⟨i_h9, ⟨g_h9, v_h9, x_h9⟩, f_h9⟩ := hp10
  subst i_h9
  have x11 : h9 ba = some (.inr (1, [.ref w_h4, .int 0, .int ml, .int (nI tb.length)])) := (f_h9 _ (by omega)).trans b_h4
  refine ax_aload_n hC 1 dJ5_append_cf1ce_33 rfl rfl ?_
  refine ax_dup hC dJ5_append_cf1ce_34 rfl ?_
  refine ax_getf (v := .int (nI tb.length)) hC x11 iJ4 rfl 3 (by decide) (by decide +kernel) rfl rfl dJ5_append_cf1ce_35 ?_
  refine ax_iload_n hC 0 dJ5_append_cf1ce_38 rfl rfl ?_
  refine ax_iadd hC dJ5_append_cf1ce_39 ?_
  refine ax_eqi (y := nI (tb.length + tx.length)) (nI_add _ _) ?_
  refine ax_putf (v := .int (nI (tb.length + tx.length))) (ty := .int) hC tyJ4 x11 iJ4 tyJ4_ok nmJ4 rfl 3 (by decide) (by decide +kernel) rfl rfl (by decide +kernel) (rfl) rfl (Nat.le_of_ble_eq_true rfl) dJ5_append_cf1ce_40 (fun h12 e13 f14 => ?_)
  have e13 : h12 ba = some (.inr (1, [.ref w_h4, .int 0, .int ml, .int (nI (tb.length + tx.length))])) := e13
  have x15 : h12 w_h4 = some (.inl (z 0, c_h4, .inl (g_h9))) := (f14 _ (by omega)).trans v_h9
  refine ax_aload_n hC 1 dJ5_append_cf1ce_43 rfl rfl ?_
  refine ax_widen (k := 1) (n := 256) (by omega) (by omega) ?_
  refine ax_aret hC (some ba) hr hlocks dJ5_append_cf1ce_44 ?_
  refine ⟨rfl, ⟨w_h4, ⟨ml, c_h4, _, by rw [List.length_append]; exact e13, x15, by rw [List.length_append]; omega, by rw [List.length_append]; omega, (hk3.keep hk1 k4_h4 k5_h4).ex x_h9 (fun j hj => ht.lt hj)⟩, k6_h4, by omega⟩, by omega, by omega, fun q hq hq2 hq3 => ?_⟩
  have hq4 : q ≠ w_h4 := by omega
  exact  ((f14 q (by omega)).trans ((f_h9 q (by omega)).trans (f_h4 q (by omega) (by omega))))

abbrev rmJ4_append_15ec4 : Room := { frames := 5, cells := 1, slots := 256, locals := 132 }
set_option maxRecDepth 100000 in
set_option maxHeartbeats 4000000 in
theorem c_J4_append_15ec4 (l : Launch) (D : va_G) (z : Nat → ClassId) (B : Heap) (lo hi : Nat) (h : Nat → Option va_E) (kr kv : Nat → Nat) (ba wa : Nat) (tb : List Nat) (sa va : Nat) (tx : List Nat) (hsb : SbA z h ba wa tb) (hs : StV kr kv h sa va) (ht : ByA z kv h va tx) (hl : tx.length ≤ 1000) (hm : tb.length + tx.length ≤ 110) (hd1 : sa < hi) (hd2 : va < hi) (hd3 : sa ≠ ba) (hd4 : va ≠ ba) : Met l yJ4_append_15ec4 wsJ4_append_15ec4 rmJ4_append_15ec4 (KPs D vwCl B lo hi h kr kv (ty6 z) [.ref ba, .ref sa]) (KQq D vwCl B lo (ty6 z) (fun r hi' h' => r = some ba ∧ (∃ v', SbA z h' ba v' (tb ++ tx) ∧ (v' = wa ∨ v' = hi) ∧ v' < hi') ∧ hi ≤ hi' ∧ hi' ≤ hi + 1 ∧ ∀ q, q < hi → q ≠ ba → q ≠ wa → h' q = h q)) 1 256 (fun q => lo ≤ q) := by
  refine ax_metS (by decide) rfl (Nat.le_of_ble_eq_true rfl) (L0 := [(0, .ref ba), (1, .ref sa)]) rfl ?_
  intro p e s m args below meth c hC hX hr hlocks hnm hargs
  refine ax_aload_n hC 0 dJ4_append_15ec4_0 rfl rfl ?_
  refine ax_aload_n hC 1 dJ4_append_15ec4_1 rfl rfl ?_
  refine ax_sSUq (st := []) hC hX [.ref sa] (hsb.rc hC) (hat_J4 hC rfl) (c_J5_append_cf1ce l D z B lo _ _ kr kv ba _ _ sa _ _ hsb hs ht (by omega) (by omega) (by omega) (by omega) (by omega) (by omega)) (va_cwSU 1 hC.1.2.2.2.2 gJ4_append_15ec4_J5_append_cf1ce_s29 rfl rfl rfl (by decide +kernel) ⟨Nat.le_of_ble_eq_true rfl, Nat.le_of_ble_eq_true rfl⟩) rfl rfl (Nat.le_of_ble_eq_true rfl) dJ4_append_15ec4_2 ⟨Nat.le_of_ble_eq_true rfl, Nat.le_of_ble_eq_true rfl⟩ (fun r1 hi2 h3 hp4 => ?_)
  obtain ⟨rfl, p_h3⟩ := hp4
  refine ax_pop hC dJ4_append_15ec4_5 rfl ?_
  refine ax_aload_n hC 0 dJ4_append_15ec4_6 rfl rfl ?_
  refine ax_aret hC (some ba) hr hlocks dJ4_append_15ec4_7 ?_
  exact ⟨rfl, p_h3⟩

abbrev rmJ5_append_3fe6f : Room := { frames := 4, cells := 1, slots := 256, locals := 110 }
set_option maxRecDepth 100000 in
set_option maxHeartbeats 4000000 in
theorem c_J5_append_3fe6f (l : Launch) (D : va_G) (z : Nat → ClassId) (B : Heap) (lo hi : Nat) (h : Nat → Option va_E) (kr kv : Nat → Nat) (ba wa : Nat) (tb : List Nat) (ch : Nat) (hsb : SbA z h ba wa tb) (hc9 : ch < 128) (hm : tb.length + 1 ≤ 110) : Met l yJ5_append_3fe6f wsJ5_append_3fe6f rmJ5_append_3fe6f (KPs D vwCl B lo hi h kr kv (ty6 z) [.ref ba, .int (nI ch)]) (KQq D vwCl B lo (ty6 z) (fun r hi' h' => r = some ba ∧ (∃ v', SbA z h' ba v' (tb ++ [ch]) ∧ (v' = wa ∨ v' = hi) ∧ v' < hi') ∧ hi ≤ hi' ∧ hi' ≤ hi + 1 ∧ ∀ q, q < hi → q ≠ ba → q ≠ wa → h' q = h q)) 1 256 (fun q => lo ≤ q) := by
  obtain ⟨ml, cap, f, hb, hv, hk1, hk2, hk3⟩ := hsb
  have hf := hk3.2
  have hne : ba ≠ wa := fun e => by rw [e, hv] at hb; cases hb
  refine ax_metS (by decide) rfl (Nat.le_of_ble_eq_true rfl) (L0 := [(0, .ref ba), (1, .int (nI ch))]) rfl ?_
  intro p e s m args below meth c hC hX hr hlocks hnm hargs
  have iJ4 : ∀ w ∈ u_ws RJ4 TJ4 4, w ∈ wsJ5_append_3fe6f := by decide +kernel
  refine ax_tell hb (fun ta_0 => ?_)
  refine ax_tell hv (fun ta_1 => ?_)
  refine ax_aload_n hC 0 dJ5_append_3fe6f_0 rfl rfl ?_
  refine ax_aload_n hC 0 dJ5_append_3fe6f_1 rfl rfl ?_
  refine ax_getf (v := .int (nI tb.length)) hC hb iJ4 rfl 3 (by decide) (by decide +kernel) rfl rfl dJ5_append_3fe6f_2 ?_
  refine ax_iconst (v := 1) hC dJ5_append_3fe6f_5 (by decide) ?_
  refine ax_iadd hC dJ5_append_3fe6f_6 ?_
  refine ax_eqi (y := nI (tb.length + 1)) (nI_1 _) ?_
  refine ax_sUv (st := []) hC hX [.int (nI (tb.length + 1))] (rc_h hC hb rfl) (c_J5_ensureCapacityInternal_d00df l D z B lo _ _ kr kv ba _ _ _ _ _ (tb.length + 1) hb hv hf (by omega) (by omega) (by omega)) (va_cwU 1 hC.1.2.2.2.2 gJ5_append_3fe6f_J5_ensureCapacityInternal_d00df_u100J4 rfl rfl rfl rfl (by decide +kernel) ⟨Nat.le_of_ble_eq_true rfl, Nat.le_of_ble_eq_true rfl⟩) rfl rfl (Nat.le_of_ble_eq_true rfl) dJ5_append_3fe6f_7 ⟨Nat.le_of_ble_eq_true rfl, Nat.le_of_ble_eq_true rfl⟩ (fun hi1 h2 hp3 => ?_)
  obtain ⟨w_h2, c_h2, g_h2, b_h2, v_h2, k1_h2, k2_h2, k3_h2, k4_h2, k5_h2, k6_h2, i1_h2, i2_h2, i3_h2, f_h2⟩ := hp3
  have n_h2 : ba ≠ w_h2 := fun e => by rw [e, v_h2] at b_h2; cases b_h2
  refine ax_aload_n hC 0 dJ5_append_3fe6f_10 rfl rfl ?_
  refine ax_sUp (st := []) hC hX [] (rc_h hC b_h2 rfl) (c_J5_isLatin1_aae02 l D z B lo _ _ kr kv ba _ _ _ b_h2) (va_cwU 0 hC.1.2.2.2.2 gJ5_append_3fe6f_J5_isLatin1_aae02_u83J4 rfl rfl rfl rfl (by decide +kernel) ⟨Nat.le_of_ble_eq_true rfl, Nat.le_of_ble_eq_true rfl⟩) rfl rfl (Nat.le_of_ble_eq_true rfl) dJ5_append_3fe6f_11 ⟨Nat.le_of_ble_eq_true rfl, Nat.le_of_ble_eq_true rfl⟩ (fun r4 er5 => ?_)
  subst er5
  refine ax_if_eq (tgt := 45) hC dJ5_append_3fe6f_14 (by decide) (fun c6 => ?_) (fun c6 => ?_)
  · exact absurd c6 (by decide)
  · refine ax_iload_n hC 1 dJ5_append_3fe6f_17 rfl rfl ?_
    refine ax_sSp (st := []) hC hX [.int (nI ch)] (c_J1_canEncode_fc78d l D z B lo _ _ kr kv ch (by omega)) (va_cwS 1 hC.1.2.2.2.2 gJ5_append_3fe6f_J1_canEncode_fc78d rfl rfl rfl (by decide +kernel) ⟨Nat.le_of_ble_eq_true rfl, Nat.le_of_ble_eq_true rfl⟩) rfl rfl (Nat.le_of_ble_eq_true rfl) dJ5_append_3fe6f_18 ⟨Nat.le_of_ble_eq_true rfl, Nat.le_of_ble_eq_true rfl⟩ (fun r7 er8 => ?_)
    subst er8
    refine ax_if_eq (tgt := 45) hC dJ5_append_3fe6f_21 (by decide) (fun c9 => ?_) (fun c9 => ?_)
    · exact absurd c9 (by decide)
    · refine ax_aload_n hC 0 dJ5_append_3fe6f_24 rfl rfl ?_
      refine ax_getf (v := .ref w_h2) hC b_h2 iJ4 rfl 0 (by decide) (by decide +kernel) rfl rfl dJ5_append_3fe6f_25 ?_
      refine ax_aload_n hC 0 dJ5_append_3fe6f_28 rfl rfl ?_
      refine ax_dup hC dJ5_append_3fe6f_29 rfl ?_
      refine ax_getf (v := .int (nI tb.length)) hC b_h2 iJ4 rfl 3 (by decide) (by decide +kernel) rfl rfl dJ5_append_3fe6f_30 ?_
      refine ax_dup_x1 hC dJ5_append_3fe6f_33 rfl rfl ?_
      refine ax_iconst (v := 1) hC dJ5_append_3fe6f_34 (by decide) ?_
      refine ax_iadd hC dJ5_append_3fe6f_35 ?_
      refine ax_eqi (y := nI (tb.length + 1)) (nI_1 _) ?_
      refine ax_putf (v := .int (nI (tb.length + 1))) (ty := .int) hC tyJ4 b_h2 iJ4 tyJ4_ok nmJ4 rfl 3 (by decide) (by decide +kernel) rfl rfl (by decide +kernel) (rfl) rfl (Nat.le_of_ble_eq_true rfl) dJ5_append_3fe6f_36 (fun h10 e11 f12 => ?_)
      have e11 : h10 ba = some (.inr (1, [.ref w_h2, .int 0, .int ml, .int (nI (tb.length + 1))])) := e11
      have x13 : h10 w_h2 = some (.inl (z 0, c_h2, .inl (g_h2))) := (f12 _ (by omega)).trans v_h2
      refine ax_iload_n hC 1 dJ5_append_3fe6f_39 rfl rfl ?_
      refine ax_i2b hC dJ5_append_3fe6f_40 rfl ?_
      refine ax_eqi (y := nI ch) ((nI_255 _ hc9).2.2.2.1) ?_
      have b15 : vp_in (nI tb.length) c_h2 := vp_in_nI (by omega) (by omega)
      refine ax_bast hC x13 0 rfl b15 dJ5_append_3fe6f_41 (fun h16 e17 f18 => ?_)
      rw [nI_clamp (by omega)] at e17
      have x19 : h16 ba = some (.inr (1, [.ref w_h2, .int 0, .int ml, .int (nI (tb.length + 1))])) := (f18 _ (by omega)).trans e11
      refine ax_goto (tgt := 75) hC dJ5_append_3fe6f_42 (by decide) ?_
      refine ax_aload_n hC 0 dJ5_append_3fe6f_75 rfl rfl ?_
      refine ax_widen (k := 1) (n := 256) (by omega) (by omega) ?_
      refine ax_aret hC (some ba) hr hlocks dJ5_append_3fe6f_76 ?_
      refine ⟨rfl, ⟨w_h2, ⟨ml, c_h2, _, by rw [List.length_append]; exact x19, e17, by rw [List.length_append]; exact k1_h2, by rw [List.length_append]; show c_h2 ≤ 2 * (tb.length + 1) + 18; omega, (hk3.keep hk1 k4_h2 k5_h2).put hc9⟩, k6_h2, by omega⟩, by omega, by omega, fun q hq hq2 hq3 => ?_⟩
      have hq4 : q ≠ w_h2 := by omega
      exact  ((f18 q (by omega)).trans ((f12 q (by omega)).trans (f_h2 q (by omega) (by omega))))

abbrev rmJ4_append_cf468 : Room := { frames := 5, cells := 1, slots := 256, locals := 131 }
set_option maxRecDepth 100000 in
set_option maxHeartbeats 4000000 in
theorem c_J4_append_cf468 (l : Launch) (D : va_G) (z : Nat → ClassId) (B : Heap) (lo hi : Nat) (h : Nat → Option va_E) (kr kv : Nat → Nat) (ba wa : Nat) (tb : List Nat) (ch : Nat) (hsb : SbA z h ba wa tb) (hc9 : ch < 128) (hm : tb.length + 1 ≤ 110) : Met l yJ4_append_cf468 wsJ4_append_cf468 rmJ4_append_cf468 (KPs D vwCl B lo hi h kr kv (ty6 z) [.ref ba, .int (nI ch)]) (KQq D vwCl B lo (ty6 z) (fun r hi' h' => r = some ba ∧ (∃ v', SbA z h' ba v' (tb ++ [ch]) ∧ (v' = wa ∨ v' = hi) ∧ v' < hi') ∧ hi ≤ hi' ∧ hi' ≤ hi + 1 ∧ ∀ q, q < hi → q ≠ ba → q ≠ wa → h' q = h q)) 1 256 (fun q => lo ≤ q) := by
  refine ax_metS (by decide) rfl (Nat.le_of_ble_eq_true rfl) (L0 := [(0, .ref ba), (1, .int (nI ch))]) rfl ?_
  intro p e s m args below meth c hC hX hr hlocks hnm hargs
  refine ax_aload_n hC 0 dJ4_append_cf468_0 rfl rfl ?_
  refine ax_iload_n hC 1 dJ4_append_cf468_1 rfl rfl ?_
  refine ax_sSUq (st := []) hC hX [.int (nI ch)] (hsb.rc hC) (hat_J4 hC rfl) (c_J5_append_3fe6f l D z B lo _ _ kr kv ba _ _ ch hsb hc9 (by omega)) (va_cwSU 1 hC.1.2.2.2.2 gJ4_append_cf468_J5_append_3fe6f_s50 rfl rfl rfl (by decide +kernel) ⟨Nat.le_of_ble_eq_true rfl, Nat.le_of_ble_eq_true rfl⟩) rfl rfl (Nat.le_of_ble_eq_true rfl) dJ4_append_cf468_2 ⟨Nat.le_of_ble_eq_true rfl, Nat.le_of_ble_eq_true rfl⟩ (fun r1 hi2 h3 hp4 => ?_)
  obtain ⟨rfl, p_h3⟩ := hp4
  refine ax_pop hC dJ4_append_cf468_5 rfl ?_
  refine ax_aload_n hC 0 dJ4_append_cf468_6 rfl rfl ?_
  refine ax_aret hC (some ba) hr hlocks dJ4_append_cf468_7 ?_
  exact ⟨rfl, p_h3⟩

abbrev rmJ7_copyOfRangeByte_39247 : Room := { frames := 1, cells := 1, slots := 110, locals := 40 }
set_option maxRecDepth 100000 in
set_option maxHeartbeats 4000000 in
theorem c_J7_copyOfRangeByte_39247 (l : Launch) (D : va_G) (z : Nat → ClassId) (B : Heap) (lo hi : Nat) (h : Nat → Option va_E) (kr kv : Nat → Nat) (wa cap : Nat) (f : Nat → Int32) (nd : Nat) (hv : h wa = some (.inl (z 0, cap, .inl f))) (hf : ∀ j, fits .byte (.int (f j)) = true) (hn : nd ≤ cap) (hm : nd ≤ 110) (hm2 : cap ≤ 100000) : Met l yJ7_copyOfRangeByte_39247 wsJ7_copyOfRangeByte_39247 rmJ7_copyOfRangeByte_39247 (KPs D vwCl B lo hi h kr kv (ty6 z) [.ref wa, .int 0, .int (nI nd)]) (KQq D vwCl B lo (ty6 z) (fun r hi' h' => hi' = hi + 1 ∧ (∀ q, q ≠ hi → h' q = h q) ∧ r = some hi ∧ ∃ f', h' hi = some (.inl (z 0, nd, .inl f')) ∧ (∀ j, j < nd → f' j = f j) ∧ ∀ j, fits .byte (.int (f' j)) = true)) 1 110 (fun q => lo ≤ q) := by
  refine ax_metS (by decide) rfl (Nat.le_of_ble_eq_true rfl) (L0 := [(0, .ref wa), (1, .int 0), (2, .int (nI nd))]) rfl ?_
  intro p e s m args below meth c hC hX hr hlocks hnm hargs
  refine ax_tell hv (fun ta_0 => ?_)
  refine ax_iload_n hC 1 dJ7_copyOfRangeByte_39247_0 rfl rfl ?_
  refine ax_iload_n hC 2 dJ7_copyOfRangeByte_39247_1 rfl rfl ?_
  refine ax_sSn (st := []) hC hX [.int 0, .int (nI nd)] (c_J7_checkLength_df160 l D z B lo _ _ kr kv nd (by omega)) (va_cwS 2 hC.1.2.2.2.2 gJ7_copyOfRangeByte_39247_J7_checkLength_df160 rfl rfl rfl (by decide +kernel) ⟨Nat.le_of_ble_eq_true rfl, Nat.le_of_ble_eq_true rfl⟩) rfl rfl (Nat.le_of_ble_eq_true rfl) dJ7_copyOfRangeByte_39247_2 ⟨Nat.le_of_ble_eq_true rfl, Nat.le_of_ble_eq_true rfl⟩ ?_
  refine ax_iload_n hC 2 dJ7_copyOfRangeByte_39247_5 rfl rfl ?_
  refine ax_iload_n hC 1 dJ7_copyOfRangeByte_39247_6 rfl rfl ?_
  refine ax_isub hC dJ7_copyOfRangeByte_39247_7 ?_
  refine ax_eqi (y := nI nd) (Int32.sub_zero _) ?_
  refine ax_istore_n hC [(3, .int (nI nd)), (0, .ref wa), (1, .int 0), (2, .int (nI nd))] dJ7_copyOfRangeByte_39247_8 rfl (by decide) rfl ?_
  refine ax_iload_n hC 0 dJ7_copyOfRangeByte_39247_9 rfl rfl ?_
  refine ax_newa (a0 := (nd, .inl (fun _ => 0))) (N' := nd) hC 0 rfl (by decide +kernel) rfl (fun C q => by cases q) (fun cA => by first | rfl | simp [vp_cell, arrV, defaultValue]) (nI_pos (by omega)) (nI_clamp (by omega)) (show nd * 1 ≤ 536870912 by omega) (Nat.le_of_ble_eq_true rfl) (show 0 + nd ≤ 110 by omega) dJ7_copyOfRangeByte_39247_10 (fun h1 e2 f3 => ?_)
  have e2 : h1 hi = some (.inl (z 0, nd, .inl (fun _ => 0))) := e2
  have x4 : h1 wa = some (.inl (z 0, cap, .inl (f))) := (f3 _ (by omega)).trans hv
  refine ax_astore hC [(4, .ref hi), (3, .int (nI nd)), (0, .ref wa), (1, .int 0), (2, .int (nI nd))] dJ7_copyOfRangeByte_39247_12 (by decide) rfl ?_
  refine ax_aload_n hC 2 dJ7_copyOfRangeByte_39247_14 rfl rfl ?_
  refine ax_iload_n hC 3 dJ7_copyOfRangeByte_39247_15 rfl rfl ?_
  refine ax_aload hC 0 dJ7_copyOfRangeByte_39247_16 rfl ?_
  refine ax_iconst (v := 0) hC dJ7_copyOfRangeByte_39247_18 (by decide) ?_
  refine ax_aload_n hC 2 dJ7_copyOfRangeByte_39247_19 rfl rfl ?_
  refine ax_alen (v := nI cap) hC x4 0 rfl rfl dJ7_copyOfRangeByte_39247_20 ?_
  refine ax_iload_n hC 3 dJ7_copyOfRangeByte_39247_21 rfl rfl ?_
  refine ax_isub hC dJ7_copyOfRangeByte_39247_22 ?_
  refine ax_eqi (y := nI cap) (Int32.sub_zero _) ?_
  refine ax_iload_n hC 1 dJ7_copyOfRangeByte_39247_23 rfl rfl ?_
  refine ax_mmin hC (by decide +kernel) (by decide +kernel) (by decide +kernel) (by decide +kernel) (Nat.le_of_ble_eq_true rfl) (Nat.le_of_ble_eq_true rfl) (Nat.le_of_ble_eq_true rfl) (show 0 + nd ≤ 110 by omega) dJ7_copyOfRangeByte_39247_24 ?_
  refine ax_eqi (y := nI nd) (min_nI (by omega) (by omega)) ?_
  refine ax_copyA hC (by decide +kernel) (by decide +kernel) (by decide +kernel) (by decide +kernel) x4 e2 0 0 rfl rfl rfl (by decide) (by decide) (nI_pos (by omega)) (show 0 + (nI nd).toNatClampNeg ≤ _ by rw [nI_clamp (by omega)]; omega) (show 0 + (nI nd).toNatClampNeg ≤ _ by rw [nI_clamp (by omega)]; omega) (fun i _ => hf _) (Nat.le_of_ble_eq_true rfl) (Nat.le_of_ble_eq_true rfl) dJ7_copyOfRangeByte_39247_27 (fun h5 e6 f7 => ?_)
  rw [nI_clamp (by omega)] at e6
  have x8 : h5 wa = some (.inl (z 0, cap, .inl (f))) := (f7 _ (by omega)).trans x4
  refine ax_aload hC 0 dJ7_copyOfRangeByte_39247_30 rfl ?_
  refine ax_widen (k := 1) (n := 110) (by omega) (by omega) ?_
  refine ax_aretA hC (some hi) hr hlocks dJ7_copyOfRangeByte_39247_32 ?_
  exact ⟨rfl, fun q hq => ((f7 q (by omega)).trans (f3 q (by omega))), rfl, _, e6, fun j hj => cpy0 hj, cpyfit hf⟩

abbrev rmJ7_copyOfRange_39247 : Room := { frames := 2, cells := 1, slots := 110, locals := 64 }
set_option maxRecDepth 100000 in
set_option maxHeartbeats 4000000 in
theorem c_J7_copyOfRange_39247 (l : Launch) (D : va_G) (z : Nat → ClassId) (B : Heap) (lo hi : Nat) (h : Nat → Option va_E) (kr kv : Nat → Nat) (wa cap : Nat) (f : Nat → Int32) (nd : Nat) (hv : h wa = some (.inl (z 0, cap, .inl f))) (hf : ∀ j, fits .byte (.int (f j)) = true) (hn : nd ≤ cap) (hm : nd ≤ 110) (hm2 : cap ≤ 100000) : Met l yJ7_copyOfRange_39247 wsJ7_copyOfRange_39247 rmJ7_copyOfRange_39247 (KPs D vwCl B lo hi h kr kv (ty6 z) [.ref wa, .int 0, .int (nI nd)]) (KQq D vwCl B lo (ty6 z) (fun r hi' h' => hi' = hi + 1 ∧ (∀ q, q ≠ hi → h' q = h q) ∧ r = some hi ∧ ∃ f', h' hi = some (.inl (z 0, nd, .inl f')) ∧ (∀ j, j < nd → f' j = f j) ∧ ∀ j, fits .byte (.int (f' j)) = true)) 1 110 (fun q => lo ≤ q) := by
  refine ax_metS (by decide) rfl (Nat.le_of_ble_eq_true rfl) (L0 := [(0, .ref wa), (1, .int 0), (2, .int (nI nd))]) rfl ?_
  intro p e s m args below meth c hC hX hr hlocks hnm hargs
  refine ax_tell hv (fun ta_0 => ?_)
  refine ax_iload_n hC 1 dJ7_copyOfRange_39247_0 rfl rfl ?_
  refine ax_if_ne (tgt := 10) hC dJ7_copyOfRange_39247_1 (by decide) (fun c1 => ?_) (fun c1 => ?_)
  · exact absurd c1 (by decide)
  · refine ax_iload_n hC 2 dJ7_copyOfRange_39247_4 rfl rfl ?_
    refine ax_aload_n hC 0 dJ7_copyOfRange_39247_5 rfl rfl ?_
    refine ax_alen (v := nI cap) hC hv 0 rfl rfl dJ7_copyOfRange_39247_6 ?_
    refine ax_icmp_eq (tgt := 17) hC dJ7_copyOfRange_39247_7 (by decide) (fun c2 => ?_) (fun c2 => ?_)
    · refine ax_aload_n hC 0 dJ7_copyOfRange_39247_17 rfl rfl ?_
      obtain rfl : nd = cap := (nI_eq (by omega) (by omega)).mp c2
      refine ax_clone (ad := "[B") hC (by decide +kernel) (by decide +kernel) (by decide +kernel) (by decide +kernel) (by decide +kernel) hC.2.2.2.1.2 hv 0 rfl (hC.2.1.2 0 _ rfl).2 (fun i v hv => fitsB hf hv) (Nat.le_of_ble_eq_true rfl) (Nat.le_of_ble_eq_true rfl) (Nat.le_of_ble_eq_true rfl) (show 0 + nd ≤ 110 by omega) dJ7_copyOfRange_39247_18 (fun h3 e4 f5 => ?_)
      have e4 : h3 hi = some (.inl (z 0, nd, .inl (f))) := e4
      have x6 : h3 wa = some (.inl (z 0, nd, .inl (f))) := (f5 _ (by omega)).trans hv
      refine ax_castA (nm := "[B") hC (by decide +kernel) e4 (hC.2.1.2 0 _ rfl).2 dJ7_copyOfRange_39247_21 ?_
      refine ax_widen (k := 1) (n := 110) (by omega) (by omega) ?_
      refine ax_aretA hC (some hi) hr hlocks dJ7_copyOfRange_39247_24 ?_
      exact ⟨rfl, fun q hq => (f5 q (by omega)), rfl, _, e4, fun j hj => rfl, hf⟩
    · refine ax_aload_n hC 0 dJ7_copyOfRange_39247_10 rfl rfl ?_
      refine ax_iload_n hC 1 dJ7_copyOfRange_39247_11 rfl rfl ?_
      refine ax_iload_n hC 2 dJ7_copyOfRange_39247_12 rfl rfl ?_
      refine ax_sSq (st := []) hC hX [.ref wa, .int 0, .int (nI nd)] (c_J7_copyOfRangeByte_39247 l D z B lo _ _ kr kv wa _ _ nd hv hf (by omega) (by omega) (by omega)) (va_cwS 3 hC.1.2.2.2.2 gJ7_copyOfRange_39247_J7_copyOfRangeByte_39247 rfl rfl rfl (by decide +kernel) ⟨Nat.le_of_ble_eq_true rfl, Nat.le_of_ble_eq_true rfl⟩) rfl rfl (Nat.le_of_ble_eq_true rfl) dJ7_copyOfRange_39247_13 ⟨Nat.le_of_ble_eq_true rfl, Nat.le_of_ble_eq_true rfl⟩ (fun r7 hi8 h9 hp10 => ?_)
      obtain ⟨i_h9, f_h9, rfl, g_h9, v_h9, k_h9, t_h9⟩ := hp10
      subst i_h9
      have x11 : h9 wa = some (.inl (z 0, cap, .inl (f))) := (f_h9 _ (by omega)).trans hv
      refine ax_widen (k := 1) (n := 110) (by omega) (by omega) ?_
      refine ax_aretA hC (some hi) hr hlocks dJ7_copyOfRange_39247_16 ?_
      exact ⟨rfl, fun q hq => (f_h9 q (by omega)), rfl, _, v_h9, k_h9, t_h9⟩

abbrev rmJ0_init_db425 : Room := { frames := 3, cells := 1, slots := 110, locals := 86 }
set_option maxRecDepth 100000 in
set_option maxHeartbeats 4000000 in
theorem c_J0_init_db425 (l : Launch) (D : va_G) (z : Nat → ClassId) (B : Heap) (lo hi : Nat) (h : Nat → Option va_E) (kr kv : Nat → Nat) (qa ba wa : Nat) (tb : List Nat) (hq0 : h qa = some (.inr (0, [.null, .int 0, .int 0, .int 0]))) (hsb : SbA z h ba wa tb) (hm : tb.length ≤ 110) : Met l yJ0_init_db425 wsJ0_init_db425 rmJ0_init_db425 (KPs D vwCl B lo hi h kr kv (ty6 z) [.ref qa, .ref ba, .null]) (KQv D vwCl B lo (ty6 z) (fun hi' h' => hi' = hi + 1 ∧ h' qa = some (.inr (0, [.ref hi, .int 0, .int 0, .int 0])) ∧ (∃ f' : Nat → Int32, h' hi = some (.inl (z 0, tb.length, .inl f')) ∧ BtT f' tb) ∧ ∀ q, q ≠ hi → q ≠ qa → h' q = h q)) 1 110 (fun q => lo ≤ q) := by
  obtain ⟨ml, cap, f, hb, hv, hk1, hk2, hk3⟩ := hsb
  have hf := hk3.2
  have hne : ba ≠ wa := fun e => by rw [e, hv] at hb; cases hb
  have hq1 : qa ≠ ba := fun e => by rw [e, hb] at hq0; cases hq0
  have hq2 : qa ≠ wa := fun e => by rw [e, hv] at hq0; cases hq0
  refine ax_metS (by decide) rfl (Nat.le_of_ble_eq_true rfl) (L0 := [(0, .ref qa), (1, .ref ba), (2, .null)]) rfl ?_
  intro p e s m args below meth c hC hX hr hlocks hnm hargs
  have iJ0 : ∀ w ∈ u_ws RJ0 TJ0 4, w ∈ wsJ0_init_db425 := by decide +kernel
  refine ax_tell hq0 (fun ta_0 => ?_)
  refine ax_tell hb (fun ta_1 => ?_)
  refine ax_tell hv (fun ta_2 => ?_)
  refine ax_aload_n hC 0 dJ0_init_db425_0 rfl rfl ?_
  refine ax_objInit hC (by decide +kernel) (by decide +kernel) (by decide +kernel) dJ0_init_db425_1 (Nat.le_of_ble_eq_true rfl) (Nat.le_of_ble_eq_true rfl) ?_
  refine ax_aload_n hC 1 dJ0_init_db425_4 rfl rfl ?_
  refine ax_sUr (st := []) hC hX [] (rc_h hC hb rfl) (c_J5_getValue_6d5f1 l D z B lo _ _ kr kv ba _ _ _ hb) (va_cwU 0 hC.1.2.2.2.2 gJ0_init_db425_J5_getValue_6d5f1_u552J4 rfl rfl rfl rfl (by decide +kernel) ⟨Nat.le_of_ble_eq_true rfl, Nat.le_of_ble_eq_true rfl⟩) rfl rfl (Nat.le_of_ble_eq_true rfl) dJ0_init_db425_5 ⟨Nat.le_of_ble_eq_true rfl, Nat.le_of_ble_eq_true rfl⟩ ?_
  refine ax_astore_n hC [(3, .ref wa), (0, .ref qa), (1, .ref ba), (2, .null)] dJ0_init_db425_8 rfl (by decide) rfl ?_
  refine ax_aload_n hC 2 dJ0_init_db425_9 rfl rfl ?_
  refine ax_sUp (st := []) hC hX [] (rc_h hC hb rfl) (c_J4_length_8abf5 l D z B lo _ _ kr kv ba _ _ _ hb) (va_cwO 0 hC.1.2.2.2.2 gJ0_init_db425_J4_length_8abf5_u549J4 rfl rfl rfl (b0 := cJ5_length_8abf5) (m0 := 1) (r0 := some .int) (by decide +kernel) (by decide +kernel) ⟨Nat.le_of_ble_eq_true rfl, Nat.le_of_ble_eq_true rfl⟩) rfl rfl (Nat.le_of_ble_eq_true rfl) dJ0_init_db425_10 ⟨Nat.le_of_ble_eq_true rfl, Nat.le_of_ble_eq_true rfl⟩ (fun r1 er2 => ?_)
  subst er2
  refine ax_istore hC [(4, .int (nI tb.length)), (3, .ref wa), (0, .ref qa), (1, .ref ba), (2, .null)] dJ0_init_db425_13 (by decide) rfl ?_
  refine ax_aload_n hC 3 dJ0_init_db425_15 rfl rfl ?_
  refine ax_sUp (st := []) hC hX [] (rc_h hC hb rfl) (c_J5_isLatin1_aae02 l D z B lo _ _ kr kv ba _ _ _ hb) (va_cwU 0 hC.1.2.2.2.2 gJ0_init_db425_J5_isLatin1_aae02_u1047J4 rfl rfl rfl rfl (by decide +kernel) ⟨Nat.le_of_ble_eq_true rfl, Nat.le_of_ble_eq_true rfl⟩) rfl rfl (Nat.le_of_ble_eq_true rfl) dJ0_init_db425_16 ⟨Nat.le_of_ble_eq_true rfl, Nat.le_of_ble_eq_true rfl⟩ (fun r3 er4 => ?_)
  subst er4
  refine ax_if_eq (tgt := 41) hC dJ0_init_db425_19 (by decide) (fun c5 => ?_) (fun c5 => ?_)
  · exact absurd c5 (by decide)
  · refine ax_aload_n hC 2 dJ0_init_db425_22 rfl rfl ?_
    refine ax_iconst (v := 0) hC dJ0_init_db425_23 (by decide) ?_
    refine ax_putF (v := .int 0) (ty := .byte) hC tyJ0 hq0 iJ0 tyJ0_ok nmJ0 rfl 1 (by decide) (by decide +kernel) rfl rfl hnm rfl (by decide +kernel) (rfl) rfl (Nat.le_of_ble_eq_true rfl) dJ0_init_db425_24 (fun h6 e7 f8 => ?_)
    have e7 : h6 qa = some (.inr (0, [.null, .int 0, .int 0, .int 0])) := e7
    have x9 : h6 ba = some (.inr (1, [.ref wa, .int 0, .int ml, .int (nI tb.length)])) := (f8 _ (by omega)).trans hb
    have x10 : h6 wa = some (.inl (z 0, cap, .inl (f))) := (f8 _ (by omega)).trans hv
    refine ax_aload_n hC 2 dJ0_init_db425_27 rfl rfl ?_
    refine ax_aload_n hC 1 dJ0_init_db425_28 rfl rfl ?_
    refine ax_iconst (v := 0) hC dJ0_init_db425_29 (by decide) ?_
    refine ax_iload hC 0 dJ0_init_db425_30 rfl ?_
    refine ax_sSq (st := [.ref qa]) hC hX [.ref wa, .int 0, .int (nI tb.length)] (c_J7_copyOfRange_39247 l D z B lo _ _ kr kv wa _ _ tb.length x10 hf (by omega) (by omega) (by omega)) (va_cwS 3 hC.1.2.2.2.2 gJ0_init_db425_J7_copyOfRange_39247 rfl rfl rfl (by decide +kernel) ⟨Nat.le_of_ble_eq_true rfl, Nat.le_of_ble_eq_true rfl⟩) rfl rfl (Nat.le_of_ble_eq_true rfl) dJ0_init_db425_32 ⟨Nat.le_of_ble_eq_true rfl, Nat.le_of_ble_eq_true rfl⟩ (fun r11 hi12 h13 hp14 => ?_)
    obtain ⟨i_h13, f_h13, rfl, g_h13, v_h13, k_h13, t_h13⟩ := hp14
    subst i_h13
    have x15 : h13 ba = some (.inr (1, [.ref wa, .int 0, .int ml, .int (nI tb.length)])) := (f_h13 _ (by omega)).trans x9
    have x16 : h13 wa = some (.inl (z 0, cap, .inl (f))) := (f_h13 _ (by omega)).trans x10
    have x17 : h13 qa = some (.inr (0, [.null, .int 0, .int 0, .int 0])) := (f_h13 _ (by omega)).trans e7
    refine ax_putF (v := .ref hi) (ty := .array .byte) hC tyJ0 x17 iJ0 tyJ0_ok nmJ0 rfl 0 (by decide) (by decide +kernel) rfl rfl hnm rfl (by decide +kernel) (rfl) rfl (Nat.le_of_ble_eq_true rfl) dJ0_init_db425_35 (fun h18 e19 f20 => ?_)
    have e19 : h18 qa = some (.inr (0, [.ref hi, .int 0, .int 0, .int 0])) := e19
    have x21 : h18 ba = some (.inr (1, [.ref wa, .int 0, .int ml, .int (nI tb.length)])) := (f20 _ (by omega)).trans x15
    have x22 : h18 wa = some (.inl (z 0, cap, .inl (f))) := (f20 _ (by omega)).trans x16
    have x23 : h18 hi = some (.inl (z 0, tb.length, .inl (g_h13))) := (f20 _ (by omega)).trans v_h13
    refine ax_goto (tgt := 97) hC dJ0_init_db425_38 (by decide) ?_
    refine ax_vret hC hr hlocks dJ0_init_db425_97 ?_
    exact ⟨rfl, e19, ⟨_, x23, hk3.keep (Nat.le_refl _) k_h13 t_h13⟩, fun q hq hq2 =>  ((f20 q (by omega)).trans ((f_h13 q (by omega)).trans (f8 q (by omega))))⟩

abbrev rmJ0_init_81219 : Room := { frames := 4, cells := 1, slots := 110, locals := 110 }
set_option maxRecDepth 100000 in
set_option maxHeartbeats 4000000 in
theorem c_J0_init_81219 (l : Launch) (D : va_G) (z : Nat → ClassId) (B : Heap) (lo hi : Nat) (h : Nat → Option va_E) (kr kv : Nat → Nat) (qa ba wa : Nat) (tb : List Nat) (hq0 : h qa = some (.inr (0, [.null, .int 0, .int 0, .int 0]))) (hsb : SbA z h ba wa tb) (hm : tb.length ≤ 110) : Met l yJ0_init_81219 wsJ0_init_81219 rmJ0_init_81219 (KPs D vwCl B lo hi h kr kv (ty6 z) [.ref qa, .ref ba]) (KQv D vwCl B lo (ty6 z) (fun hi' h' => hi' = hi + 1 ∧ h' qa = some (.inr (0, [.ref hi, .int 0, .int 0, .int 0])) ∧ (∃ f' : Nat → Int32, h' hi = some (.inl (z 0, tb.length, .inl f')) ∧ BtT f' tb) ∧ ∀ q, q ≠ hi → q ≠ qa → h' q = h q)) 1 110 (fun q => lo ≤ q) := by
  refine ax_metS (by decide) rfl (Nat.le_of_ble_eq_true rfl) (L0 := [(0, .ref qa), (1, .ref ba)]) rfl ?_
  intro p e s m args below meth c hC hX hr hlocks hnm hargs
  refine ax_aload_n hC 0 dJ0_init_81219_0 rfl rfl ?_
  refine ax_aload_n hC 1 dJ0_init_81219_1 rfl rfl ?_
  refine ax_null hC dJ0_init_81219_2 ?_
  refine ax_sIv (st := []) hC hX [.ref ba, .null] (c_J0_init_db425 l D z B lo _ _ kr kv qa ba _ _ hq0 hsb (by omega)) (cwI 2 hC.1.2.2.2.2 gJ0_init_81219_J0_init_db425 rfl rfl rfl (hC.1.2.2.2.2 _ (by decide +kernel)) (hC.1.2.2.2.2 _ (by decide +kernel)) (hC.1.2.2.2.2 _ (by decide +kernel)) rfl (by decide +kernel) ⟨Nat.le_of_ble_eq_true rfl, Nat.le_of_ble_eq_true rfl⟩) rfl rfl (Nat.le_of_ble_eq_true rfl) dJ0_init_81219_3 ⟨Nat.le_of_ble_eq_true rfl, Nat.le_of_ble_eq_true rfl⟩ (fun hi1 h2 hp3 => ?_)
  refine ax_vret hC hr hlocks dJ0_init_81219_6 ?_
  exact hp3

abbrev rmJ4_toString_0e30d : Room := { frames := 5, cells := 2, slots := 114, locals := 131 }
set_option maxRecDepth 100000 in
set_option maxHeartbeats 4000000 in
theorem c_J4_toString_0e30d (l : Launch) (D : va_G) (z : Nat → ClassId) (B : Heap) (lo hi : Nat) (h : Nat → Option va_E) (kr kv : Nat → Nat) (ba wa : Nat) (tb : List Nat) (hsb : SbA z h ba wa tb) (hm : tb.length ≤ 110) : Met l yJ4_toString_0e30d wsJ4_toString_0e30d rmJ4_toString_0e30d (KPs D vwCl B lo hi h kr kv (ty6 z) [.ref ba]) (KQq D vwCl B lo (ty6 z) (fun r hi' h' => r = some hi ∧ StV kr kv h' hi (hi + 1) ∧ ByA z kv h' (hi + 1) tb ∧ hi' = hi + 2 ∧ ∀ q, q < hi → h' q = h q)) 2 114 (fun q => lo ≤ q) := by
  have hsb0 := hsb
  obtain ⟨ml, cap, f, hb, hv, -⟩ := hsb0
  refine ax_metS (by decide) rfl (Nat.le_of_ble_eq_true rfl) (L0 := [(0, .ref ba)]) rfl ?_
  intro p e s m args below meth c hC hX hr hlocks hnm hargs
  have iJ0 : ∀ w ∈ u_ws RJ0 TJ0 4, w ∈ wsJ4_toString_0e30d := by decide +kernel
  refine ax_tell hb (fun ta_0 => ?_)
  refine ax_tell hv (fun ta_1 => ?_)
  refine ax_new (C := RJ0) (T := TJ0) (N := 4) (ci := 0) (fs := [.null, .int 0, .int 0, .int 0]) hC tyJ0 iJ0 tyJ0_ok (by decide +kernel) (by decide +kernel) (by decide +kernel) rfl (fun j hj => by rcases (show j = 0 ∨ j = 1 ∨ j = 2 ∨ j = 3 by omega) with rfl | rfl | rfl | rfl <;> rfl) (Nat.le_of_ble_eq_true rfl) (Nat.le_of_ble_eq_true rfl) dJ4_toString_0e30d_0 (fun h1 e2 f3 => ?_)
  have e2 : h1 hi = some (.inr (0, [.null, .int 0, .int 0, .int 0])) := e2
  refine ax_dup hC dJ4_toString_0e30d_3 rfl ?_
  refine ax_aload_n hC 0 dJ4_toString_0e30d_4 rfl rfl ?_
  refine ax_sIv (st := [.ref hi]) hC hX [.ref ba] (c_J0_init_81219 l D z B lo _ _ kr kv hi ba _ _ e2 (hsb.kept (f3 _ (by omega)) (f3 _ (by omega))) (by omega)) (cwI 1 hC.1.2.2.2.2 gJ4_toString_0e30d_J0_init_81219 rfl rfl rfl (hC.1.2.2.2.2 _ (by decide +kernel)) (hC.1.2.2.2.2 _ (by decide +kernel)) (hC.1.2.2.2.2 _ (by decide +kernel)) rfl (by decide +kernel) ⟨Nat.le_of_ble_eq_true rfl, Nat.le_of_ble_eq_true rfl⟩) rfl rfl (Nat.le_of_ble_eq_true rfl) dJ4_toString_0e30d_5 ⟨Nat.le_of_ble_eq_true rfl, Nat.le_of_ble_eq_true rfl⟩ (fun hi4 h5 hp6 => ?_)
  refine ax_aret hC (some hi) hr hlocks dJ4_toString_0e30d_8 ?_
  obtain ⟨i_h5, s_h5, ⟨g_h5, v_h5, k_h5⟩, f_h5⟩ := hp6
  subst i_h5
  exact ⟨rfl, Or.inl ⟨_, _, s_h5⟩, Or.inl ⟨_, v_h5, k_h5.1⟩, rfl, fun q hq => (f_h5 q (by omega) (by omega)).trans (f3 q (by omega))⟩
