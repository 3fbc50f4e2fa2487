abbrev rmX7_kindOf : Room := { frames := 0, cells := 0, slots := 0, locals := 0 }
set_option maxRecDepth 100000 in
set_option maxHeartbeats 4000000 in
theorem c_X7_kindOf (l : Launch) (D : va_G) (z : Nat → ClassId) (lo hi : Nat) (h : Nat → Option va_E) (a : Nat) (nd : Int32) (cap : Nat) (K S Lt Lb Dp In Br St : Nat → Int32) (x : Int32) (hP : PrC z h a nd cap K S Lt Lb Dp In Br St) (hcap : cap ≤ 60) : Met l yX7_kindOf wsX7_kindOf rmX7_kindOf (KP D vwCl lo hi h (ty6 z) [.ref a, .int x]) (KQp D vwCl lo hi h (ty6 z) (fun r => r = rd cap K 0 x)) 0 0 (fun q => lo ≤ q) := by
  refine ax_met (by decide) rfl (Nat.le_of_ble_eq_true rfl) (L0 := [(0, .ref a), (1, .int x)]) rfl ?_
  intro p e s m args below meth c hC hr hlocks hnm hargs
  have iX7 : ∀ w ∈ u_ws RX7 TX7 9, w ∈ wsX7_kindOf := by decide +kernel
  refine ax_iload_n hC 1 dX7_kindOf_0 rfl rfl ?_
  refine ax_if_lt (tgt := 22) hC dX7_kindOf_1 (by decide) (fun c1 => ?_) (fun c1 => ?_)
  · refine ax_iconst (v := 0) hC dX7_kindOf_22 (by decide) ?_
    refine ax_iret hC hr hlocks dX7_kindOf_23 ?_
    exact ⟨(rd_lo c1).symm, rfl, rfl⟩
  · refine ax_iload_n hC 1 dX7_kindOf_4 rfl rfl ?_
    refine ax_aload_n hC 0 dX7_kindOf_5 rfl rfl ?_
    refine ax_getf (v := .ref (a + 1)) hC hP.1 iX7 rfl 1 (by decide) (by decide +kernel) rfl rfl dX7_kindOf_6 ?_
    refine ax_alen (v := nI cap) hC hP.2.1 1 rfl rfl dX7_kindOf_9 ?_
    refine ax_icmp_ge (tgt := 22) hC dX7_kindOf_10 (by decide) (fun c2 => ?_) (fun c2 => ?_)
    · refine ax_iconst (v := 0) hC dX7_kindOf_22 (by decide) ?_
      refine ax_iret hC hr hlocks dX7_kindOf_23 ?_
      exact ⟨(rd_hi (by omega) c2).symm, rfl, rfl⟩
    · refine ax_aload_n hC 0 dX7_kindOf_13 rfl rfl ?_
      refine ax_getf (v := .ref (a + 1)) hC hP.1 iX7 rfl 1 (by decide) (by decide +kernel) rfl rfl dX7_kindOf_14 ?_
      refine ax_iload_n hC 1 dX7_kindOf_17 rfl rfl ?_
      have b3 : vp_in x cap := vin_aa c1 c2 (by first | decide | omega)
      refine ax_iald hC hP.2.1 1 rfl b3 dX7_kindOf_18 ?_
      refine ax_goto (tgt := 23) hC dX7_kindOf_19 (by decide) ?_
      refine ax_iret hC hr hlocks dX7_kindOf_23 ?_
      exact ⟨(rd_in b3).symm, rfl, rfl⟩

abbrev rmX7_sortOf : Room := { frames := 0, cells := 0, slots := 0, locals := 0 }
set_option maxRecDepth 100000 in
set_option maxHeartbeats 4000000 in
theorem c_X7_sortOf (l : Launch) (D : va_G) (z : Nat → ClassId) (lo hi : Nat) (h : Nat → Option va_E) (a : Nat) (nd : Int32) (cap : Nat) (K S Lt Lb Dp In Br St : Nat → Int32) (x : Int32) (hP : PrC z h a nd cap K S Lt Lb Dp In Br St) (hcap : cap ≤ 60) : Met l yX7_sortOf wsX7_sortOf rmX7_sortOf (KP D vwCl lo hi h (ty6 z) [.ref a, .int x]) (KQp D vwCl lo hi h (ty6 z) (fun r => r = rd cap S 0 x)) 0 0 (fun q => lo ≤ q) := by
  refine ax_met (by decide) rfl (Nat.le_of_ble_eq_true rfl) (L0 := [(0, .ref a), (1, .int x)]) rfl ?_
  intro p e s m args below meth c hC hr hlocks hnm hargs
  have iX7 : ∀ w ∈ u_ws RX7 TX7 9, w ∈ wsX7_sortOf := by decide +kernel
  refine ax_iload_n hC 1 dX7_sortOf_0 rfl rfl ?_
  refine ax_if_lt (tgt := 22) hC dX7_sortOf_1 (by decide) (fun c1 => ?_) (fun c1 => ?_)
  · refine ax_iconst (v := 0) hC dX7_sortOf_22 (by decide) ?_
    refine ax_iret hC hr hlocks dX7_sortOf_23 ?_
    exact ⟨(rd_lo c1).symm, rfl, rfl⟩
  · refine ax_iload_n hC 1 dX7_sortOf_4 rfl rfl ?_
    refine ax_aload_n hC 0 dX7_sortOf_5 rfl rfl ?_
    refine ax_getf (v := .ref (a + 2)) hC hP.1 iX7 rfl 2 (by decide) (by decide +kernel) rfl rfl dX7_sortOf_6 ?_
    refine ax_alen (v := nI cap) hC hP.2.2.1 1 rfl rfl dX7_sortOf_9 ?_
    refine ax_icmp_ge (tgt := 22) hC dX7_sortOf_10 (by decide) (fun c2 => ?_) (fun c2 => ?_)
    · refine ax_iconst (v := 0) hC dX7_sortOf_22 (by decide) ?_
      refine ax_iret hC hr hlocks dX7_sortOf_23 ?_
      exact ⟨(rd_hi (by omega) c2).symm, rfl, rfl⟩
    · refine ax_aload_n hC 0 dX7_sortOf_13 rfl rfl ?_
      refine ax_getf (v := .ref (a + 2)) hC hP.1 iX7 rfl 2 (by decide) (by decide +kernel) rfl rfl dX7_sortOf_14 ?_
      refine ax_iload_n hC 1 dX7_sortOf_17 rfl rfl ?_
      have b3 : vp_in x cap := vin_aa c1 c2 (by first | decide | omega)
      refine ax_iald hC hP.2.2.1 1 rfl b3 dX7_sortOf_18 ?_
      refine ax_goto (tgt := 23) hC dX7_sortOf_19 (by decide) ?_
      refine ax_iret hC hr hlocks dX7_sortOf_23 ?_
      exact ⟨(rd_in b3).symm, rfl, rfl⟩

abbrev rmX7_letterOf : Room := { frames := 0, cells := 0, slots := 0, locals := 0 }
set_option maxRecDepth 100000 in
set_option maxHeartbeats 4000000 in
theorem c_X7_letterOf (l : Launch) (D : va_G) (z : Nat → ClassId) (lo hi : Nat) (h : Nat → Option va_E) (a : Nat) (nd : Int32) (cap : Nat) (K S Lt Lb Dp In Br St : Nat → Int32) (x : Int32) (hP : PrC z h a nd cap K S Lt Lb Dp In Br St) (hcap : cap ≤ 60) : Met l yX7_letterOf wsX7_letterOf rmX7_letterOf (KP D vwCl lo hi h (ty6 z) [.ref a, .int x]) (KQp D vwCl lo hi h (ty6 z) (fun r => r = rd cap Lt 0 x)) 0 0 (fun q => lo ≤ q) := by
  refine ax_met (by decide) rfl (Nat.le_of_ble_eq_true rfl) (L0 := [(0, .ref a), (1, .int x)]) rfl ?_
  intro p e s m args below meth c hC hr hlocks hnm hargs
  have iX7 : ∀ w ∈ u_ws RX7 TX7 9, w ∈ wsX7_letterOf := by decide +kernel
  refine ax_iload_n hC 1 dX7_letterOf_0 rfl rfl ?_
  refine ax_if_lt (tgt := 22) hC dX7_letterOf_1 (by decide) (fun c1 => ?_) (fun c1 => ?_)
  · refine ax_iconst (v := 0) hC dX7_letterOf_22 (by decide) ?_
    refine ax_iret hC hr hlocks dX7_letterOf_23 ?_
    exact ⟨(rd_lo c1).symm, rfl, rfl⟩
  · refine ax_iload_n hC 1 dX7_letterOf_4 rfl rfl ?_
    refine ax_aload_n hC 0 dX7_letterOf_5 rfl rfl ?_
    refine ax_getf (v := .ref (a + 3)) hC hP.1 iX7 rfl 3 (by decide) (by decide +kernel) rfl rfl dX7_letterOf_6 ?_
    refine ax_alen (v := nI cap) hC hP.2.2.2.1 1 rfl rfl dX7_letterOf_9 ?_
    refine ax_icmp_ge (tgt := 22) hC dX7_letterOf_10 (by decide) (fun c2 => ?_) (fun c2 => ?_)
    · refine ax_iconst (v := 0) hC dX7_letterOf_22 (by decide) ?_
      refine ax_iret hC hr hlocks dX7_letterOf_23 ?_
      exact ⟨(rd_hi (by omega) c2).symm, rfl, rfl⟩
    · refine ax_aload_n hC 0 dX7_letterOf_13 rfl rfl ?_
      refine ax_getf (v := .ref (a + 3)) hC hP.1 iX7 rfl 3 (by decide) (by decide +kernel) rfl rfl dX7_letterOf_14 ?_
      refine ax_iload_n hC 1 dX7_letterOf_17 rfl rfl ?_
      have b3 : vp_in x cap := vin_aa c1 c2 (by first | decide | omega)
      refine ax_iald hC hP.2.2.2.1 1 rfl b3 dX7_letterOf_18 ?_
      refine ax_goto (tgt := 23) hC dX7_letterOf_19 (by decide) ?_
      refine ax_iret hC hr hlocks dX7_letterOf_23 ?_
      exact ⟨(rd_in b3).symm, rfl, rfl⟩

abbrev rmX7_labelsOf : Room := { frames := 0, cells := 0, slots := 0, locals := 0 }
set_option maxRecDepth 100000 in
set_option maxHeartbeats 4000000 in
theorem c_X7_labelsOf (l : Launch) (D : va_G) (z : Nat → ClassId) (lo hi : Nat) (h : Nat → Option va_E) (a : Nat) (nd : Int32) (cap : Nat) (K S Lt Lb Dp In Br St : Nat → Int32) (x : Int32) (hP : PrC z h a nd cap K S Lt Lb Dp In Br St) (hcap : cap ≤ 60) : Met l yX7_labelsOf wsX7_labelsOf rmX7_labelsOf (KP D vwCl lo hi h (ty6 z) [.ref a, .int x]) (KQp D vwCl lo hi h (ty6 z) (fun r => r = rd cap Lb 0 x)) 0 0 (fun q => lo ≤ q) := by
  refine ax_met (by decide) rfl (Nat.le_of_ble_eq_true rfl) (L0 := [(0, .ref a), (1, .int x)]) rfl ?_
  intro p e s m args below meth c hC hr hlocks hnm hargs
  have iX7 : ∀ w ∈ u_ws RX7 TX7 9, w ∈ wsX7_labelsOf := by decide +kernel
  refine ax_iload_n hC 1 dX7_labelsOf_0 rfl rfl ?_
  refine ax_if_lt (tgt := 22) hC dX7_labelsOf_1 (by decide) (fun c1 => ?_) (fun c1 => ?_)
  · refine ax_iconst (v := 0) hC dX7_labelsOf_22 (by decide) ?_
    refine ax_iret hC hr hlocks dX7_labelsOf_23 ?_
    exact ⟨(rd_lo c1).symm, rfl, rfl⟩
  · refine ax_iload_n hC 1 dX7_labelsOf_4 rfl rfl ?_
    refine ax_aload_n hC 0 dX7_labelsOf_5 rfl rfl ?_
    refine ax_getf (v := .ref (a + 4)) hC hP.1 iX7 rfl 4 (by decide) (by decide +kernel) rfl rfl dX7_labelsOf_6 ?_
    refine ax_alen (v := nI cap) hC hP.2.2.2.2.1 1 rfl rfl dX7_labelsOf_9 ?_
    refine ax_icmp_ge (tgt := 22) hC dX7_labelsOf_10 (by decide) (fun c2 => ?_) (fun c2 => ?_)
    · refine ax_iconst (v := 0) hC dX7_labelsOf_22 (by decide) ?_
      refine ax_iret hC hr hlocks dX7_labelsOf_23 ?_
      exact ⟨(rd_hi (by omega) c2).symm, rfl, rfl⟩
    · refine ax_aload_n hC 0 dX7_labelsOf_13 rfl rfl ?_
      refine ax_getf (v := .ref (a + 4)) hC hP.1 iX7 rfl 4 (by decide) (by decide +kernel) rfl rfl dX7_labelsOf_14 ?_
      refine ax_iload_n hC 1 dX7_labelsOf_17 rfl rfl ?_
      have b3 : vp_in x cap := vin_aa c1 c2 (by first | decide | omega)
      refine ax_iald hC hP.2.2.2.2.1 1 rfl b3 dX7_labelsOf_18 ?_
      refine ax_goto (tgt := 23) hC dX7_labelsOf_19 (by decide) ?_
      refine ax_iret hC hr hlocks dX7_labelsOf_23 ?_
      exact ⟨(rd_in b3).symm, rfl, rfl⟩
