abbrev rmX7_kindOf : Room := { frames := 0, cells := 0, slots := 0, locals := 0 }
set_option maxRecDepth 100000 in
set_option maxHeartbeats 4000000 in
theorem c_X7_kindOf (l : Launch) (D : va_G) (z : Nat → ClassId) (B : Heap) (lo hi : Nat) (h : Nat → Option va_E) (a : Nat) (nd : Int32) (T : PT) (x : Int32) (hP : PrC z h a nd T) (hcap : pcap T ≤ 60) : Met l yX7_kindOf wsX7_kindOf rmX7_kindOf (KP D vwCl B lo hi h (ty6 z) [.ref a, .int x]) (KQp D vwCl B lo hi h (ty6 z) (fun r => r = rd (pcap T) (pK T) 0 x)) 0 0 (fun q => lo ≤ q) := by
  refine ax_met (by decide) rfl (Nat.le_of_ble_eq_true rfl) (L0 := [(0, .ref a), (1, .int x)]) rfl ?_
  intro p e s m args below meth c hC hr hlocks hnm hargs
  have iX7 : ∀ w ∈ u_ws RX7 TX7 9, w ∈ wsX7_kindOf := by decide +kernel
  refine ax_iload_n hC 1 dX7_kindOf_0 rfl rfl ?_
  refine ax_if_lt (tgt := 22) hC dX7_kindOf_1 (by decide) (fun c1 => ?_) (fun c1 => ?_)
  · refine ax_iconst (v := 0) hC dX7_kindOf_22 (by decide) ?_
    refine ax_iret hC hr hlocks dX7_kindOf_23 ?_
    exact ⟨(rd_lo c1).symm, rfl, rfl⟩
  · refine ax_iload_n hC 1 dX7_kindOf_4 rfl rfl ?_
    refine ax_aload_n hC 0 dX7_kindOf_5 rfl rfl ?_
    refine ax_getf (v := .ref (a + 1)) hC hP.1 iX7 rfl 1 (by decide) (by decide +kernel) rfl rfl dX7_kindOf_6 ?_
    refine ax_alen (v := nI (pcap T)) hC hP.2.1 1 rfl rfl dX7_kindOf_9 ?_
    refine ax_icmp_ge (tgt := 22) hC dX7_kindOf_10 (by decide) (fun c2 => ?_) (fun c2 => ?_)
    · refine ax_iconst (v := 0) hC dX7_kindOf_22 (by decide) ?_
      refine ax_iret hC hr hlocks dX7_kindOf_23 ?_
      exact ⟨(rd_hi (by omega) c2).symm, rfl, rfl⟩
    · refine ax_aload_n hC 0 dX7_kindOf_13 rfl rfl ?_
      refine ax_getf (v := .ref (a + 1)) hC hP.1 iX7 rfl 1 (by decide) (by decide +kernel) rfl rfl dX7_kindOf_14 ?_
      refine ax_iload_n hC 1 dX7_kindOf_17 rfl rfl ?_
      have b3 : vp_in x (pcap T) := vin_aa c1 c2 (by first | decide | omega)
      refine ax_iald hC hP.2.1 1 rfl b3 dX7_kindOf_18 ?_
      refine ax_goto (tgt := 23) hC dX7_kindOf_19 (by decide) ?_
      refine ax_iret hC hr hlocks dX7_kindOf_23 ?_
      exact ⟨(rd_in b3).symm, rfl, rfl⟩

abbrev rmX7_sortOf : Room := { frames := 0, cells := 0, slots := 0, locals := 0 }
set_option maxRecDepth 100000 in
set_option maxHeartbeats 4000000 in
theorem c_X7_sortOf (l : Launch) (D : va_G) (z : Nat → ClassId) (B : Heap) (lo hi : Nat) (h : Nat → Option va_E) (a : Nat) (nd : Int32) (T : PT) (x : Int32) (hP : PrC z h a nd T) (hcap : pcap T ≤ 60) : Met l yX7_sortOf wsX7_sortOf rmX7_sortOf (KP D vwCl B lo hi h (ty6 z) [.ref a, .int x]) (KQp D vwCl B lo hi h (ty6 z) (fun r => r = rd (pcap T) (pS T) 0 x)) 0 0 (fun q => lo ≤ q) := by
  refine ax_met (by decide) rfl (Nat.le_of_ble_eq_true rfl) (L0 := [(0, .ref a), (1, .int x)]) rfl ?_
  intro p e s m args below meth c hC hr hlocks hnm hargs
  have iX7 : ∀ w ∈ u_ws RX7 TX7 9, w ∈ wsX7_sortOf := by decide +kernel
  refine ax_iload_n hC 1 dX7_sortOf_0 rfl rfl ?_
  refine ax_if_lt (tgt := 22) hC dX7_sortOf_1 (by decide) (fun c1 => ?_) (fun c1 => ?_)
  · refine ax_iconst (v := 0) hC dX7_sortOf_22 (by decide) ?_
    refine ax_iret hC hr hlocks dX7_sortOf_23 ?_
    exact ⟨(rd_lo c1).symm, rfl, rfl⟩
  · refine ax_iload_n hC 1 dX7_sortOf_4 rfl rfl ?_
    refine ax_aload_n hC 0 dX7_sortOf_5 rfl rfl ?_
    refine ax_getf (v := .ref (a + 2)) hC hP.1 iX7 rfl 2 (by decide) (by decide +kernel) rfl rfl dX7_sortOf_6 ?_
    refine ax_alen (v := nI (pcap T)) hC hP.2.2.1 1 rfl rfl dX7_sortOf_9 ?_
    refine ax_icmp_ge (tgt := 22) hC dX7_sortOf_10 (by decide) (fun c2 => ?_) (fun c2 => ?_)
    · refine ax_iconst (v := 0) hC dX7_sortOf_22 (by decide) ?_
      refine ax_iret hC hr hlocks dX7_sortOf_23 ?_
      exact ⟨(rd_hi (by omega) c2).symm, rfl, rfl⟩
    · refine ax_aload_n hC 0 dX7_sortOf_13 rfl rfl ?_
      refine ax_getf (v := .ref (a + 2)) hC hP.1 iX7 rfl 2 (by decide) (by decide +kernel) rfl rfl dX7_sortOf_14 ?_
      refine ax_iload_n hC 1 dX7_sortOf_17 rfl rfl ?_
      have b3 : vp_in x (pcap T) := vin_aa c1 c2 (by first | decide | omega)
      refine ax_iald hC hP.2.2.1 1 rfl b3 dX7_sortOf_18 ?_
      refine ax_goto (tgt := 23) hC dX7_sortOf_19 (by decide) ?_
      refine ax_iret hC hr hlocks dX7_sortOf_23 ?_
      exact ⟨(rd_in b3).symm, rfl, rfl⟩

abbrev rmX7_letterOf : Room := { frames := 0, cells := 0, slots := 0, locals := 0 }
set_option maxRecDepth 100000 in
set_option maxHeartbeats 4000000 in
theorem c_X7_letterOf (l : Launch) (D : va_G) (z : Nat → ClassId) (B : Heap) (lo hi : Nat) (h : Nat → Option va_E) (a : Nat) (nd : Int32) (T : PT) (x : Int32) (hP : PrC z h a nd T) (hcap : pcap T ≤ 60) : Met l yX7_letterOf wsX7_letterOf rmX7_letterOf (KP D vwCl B lo hi h (ty6 z) [.ref a, .int x]) (KQp D vwCl B lo hi h (ty6 z) (fun r => r = rd (pcap T) (pLt T) 0 x)) 0 0 (fun q => lo ≤ q) := by
  refine ax_met (by decide) rfl (Nat.le_of_ble_eq_true rfl) (L0 := [(0, .ref a), (1, .int x)]) rfl ?_
  intro p e s m args below meth c hC hr hlocks hnm hargs
  have iX7 : ∀ w ∈ u_ws RX7 TX7 9, w ∈ wsX7_letterOf := by decide +kernel
  refine ax_iload_n hC 1 dX7_letterOf_0 rfl rfl ?_
  refine ax_if_lt (tgt := 22) hC dX7_letterOf_1 (by decide) (fun c1 => ?_) (fun c1 => ?_)
  · refine ax_iconst (v := 0) hC dX7_letterOf_22 (by decide) ?_
    refine ax_iret hC hr hlocks dX7_letterOf_23 ?_
    exact ⟨(rd_lo c1).symm, rfl, rfl⟩
  · refine ax_iload_n hC 1 dX7_letterOf_4 rfl rfl ?_
    refine ax_aload_n hC 0 dX7_letterOf_5 rfl rfl ?_
    refine ax_getf (v := .ref (a + 3)) hC hP.1 iX7 rfl 3 (by decide) (by decide +kernel) rfl rfl dX7_letterOf_6 ?_
    refine ax_alen (v := nI (pcap T)) hC hP.2.2.2.1 1 rfl rfl dX7_letterOf_9 ?_
    refine ax_icmp_ge (tgt := 22) hC dX7_letterOf_10 (by decide) (fun c2 => ?_) (fun c2 => ?_)
    · refine ax_iconst (v := 0) hC dX7_letterOf_22 (by decide) ?_
      refine ax_iret hC hr hlocks dX7_letterOf_23 ?_
      exact ⟨(rd_hi (by omega) c2).symm, rfl, rfl⟩
    · refine ax_aload_n hC 0 dX7_letterOf_13 rfl rfl ?_
      refine ax_getf (v := .ref (a + 3)) hC hP.1 iX7 rfl 3 (by decide) (by decide +kernel) rfl rfl dX7_letterOf_14 ?_
      refine ax_iload_n hC 1 dX7_letterOf_17 rfl rfl ?_
      have b3 : vp_in x (pcap T) := vin_aa c1 c2 (by first | decide | omega)
      refine ax_iald hC hP.2.2.2.1 1 rfl b3 dX7_letterOf_18 ?_
      refine ax_goto (tgt := 23) hC dX7_letterOf_19 (by decide) ?_
      refine ax_iret hC hr hlocks dX7_letterOf_23 ?_
      exact ⟨(rd_in b3).symm, rfl, rfl⟩

abbrev rmX7_labelsOf : Room := { frames := 0, cells := 0, slots := 0, locals := 0 }
set_option maxRecDepth 100000 in
set_option maxHeartbeats 4000000 in
theorem c_X7_labelsOf (l : Launch) (D : va_G) (z : Nat → ClassId) (B : Heap) (lo hi : Nat) (h : Nat → Option va_E) (a : Nat) (nd : Int32) (T : PT) (x : Int32) (hP : PrC z h a nd T) (hcap : pcap T ≤ 60) : Met l yX7_labelsOf wsX7_labelsOf rmX7_labelsOf (KP D vwCl B lo hi h (ty6 z) [.ref a, .int x]) (KQp D vwCl B lo hi h (ty6 z) (fun r => r = rd (pcap T) (pLb T) 0 x)) 0 0 (fun q => lo ≤ q) := by
  refine ax_met (by decide) rfl (Nat.le_of_ble_eq_true rfl) (L0 := [(0, .ref a), (1, .int x)]) rfl ?_
  intro p e s m args below meth c hC hr hlocks hnm hargs
  have iX7 : ∀ w ∈ u_ws RX7 TX7 9, w ∈ wsX7_labelsOf := by decide +kernel
  refine ax_iload_n hC 1 dX7_labelsOf_0 rfl rfl ?_
  refine ax_if_lt (tgt := 22) hC dX7_labelsOf_1 (by decide) (fun c1 => ?_) (fun c1 => ?_)
  · refine ax_iconst (v := 0) hC dX7_labelsOf_22 (by decide) ?_
    refine ax_iret hC hr hlocks dX7_labelsOf_23 ?_
    exact ⟨(rd_lo c1).symm, rfl, rfl⟩
  · refine ax_iload_n hC 1 dX7_labelsOf_4 rfl rfl ?_
    refine ax_aload_n hC 0 dX7_labelsOf_5 rfl rfl ?_
    refine ax_getf (v := .ref (a + 4)) hC hP.1 iX7 rfl 4 (by decide) (by decide +kernel) rfl rfl dX7_labelsOf_6 ?_
    refine ax_alen (v := nI (pcap T)) hC hP.2.2.2.2.1 1 rfl rfl dX7_labelsOf_9 ?_
    refine ax_icmp_ge (tgt := 22) hC dX7_labelsOf_10 (by decide) (fun c2 => ?_) (fun c2 => ?_)
    · refine ax_iconst (v := 0) hC dX7_labelsOf_22 (by decide) ?_
      refine ax_iret hC hr hlocks dX7_labelsOf_23 ?_
      exact ⟨(rd_hi (by omega) c2).symm, rfl, rfl⟩
    · refine ax_aload_n hC 0 dX7_labelsOf_13 rfl rfl ?_
      refine ax_getf (v := .ref (a + 4)) hC hP.1 iX7 rfl 4 (by decide) (by decide +kernel) rfl rfl dX7_labelsOf_14 ?_
      refine ax_iload_n hC 1 dX7_labelsOf_17 rfl rfl ?_
      have b3 : vp_in x (pcap T) := vin_aa c1 c2 (by first | decide | omega)
      refine ax_iald hC hP.2.2.2.2.1 1 rfl b3 dX7_labelsOf_18 ?_
      refine ax_goto (tgt := 23) hC dX7_labelsOf_19 (by decide) ?_
      refine ax_iret hC hr hlocks dX7_labelsOf_23 ?_
      exact ⟨(rd_in b3).symm, rfl, rfl⟩

abbrev rmX7_innerOf : Room := { frames := 0, cells := 0, slots := 0, locals := 0 }
set_option maxRecDepth 100000 in
set_option maxHeartbeats 4000000 in
theorem c_X7_innerOf (l : Launch) (D : va_G) (z : Nat → ClassId) (B : Heap) (lo hi : Nat) (h : Nat → Option va_E) (a : Nat) (nd : Int32) (T : PT) (x : Int32) (hP : PrC z h a nd T) (hcap : pcap T ≤ 60) : Met l yX7_innerOf wsX7_innerOf rmX7_innerOf (KP D vwCl B lo hi h (ty6 z) [.ref a, .int x]) (KQp D vwCl B lo hi h (ty6 z) (fun r => r = rd (pcap T) (pSt T) 0 (rd (pcap T) (pIn T) (-1) x))) 0 0 (fun q => lo ≤ q) := by
  refine ax_met (by decide) rfl (Nat.le_of_ble_eq_true rfl) (L0 := [(0, .ref a), (1, .int x)]) rfl ?_
  intro p e s m args below meth c hC hr hlocks hnm hargs
  have iX7 : ∀ w ∈ u_ws RX7 TX7 9, w ∈ wsX7_innerOf := by decide +kernel
  refine ax_iload_n hC 1 dX7_innerOf_0 rfl rfl ?_
  refine ax_if_lt (tgt := 22) hC dX7_innerOf_1 (by decide) (fun c1 => ?_) (fun c1 => ?_)
  · refine ax_iconst (v := (-1)) hC dX7_innerOf_22 (by decide) ?_
    refine ax_istore_n hC [(2, .int (-1)), (0, .ref a), (1, .int x)] dX7_innerOf_23 rfl (by decide) rfl ?_
    refine ax_iload_n hC 0 dX7_innerOf_24 rfl rfl ?_
    refine ax_if_lt (tgt := 46) hC dX7_innerOf_25 (by decide) (fun c2 => ?_) (fun c2 => ?_)
    · refine ax_iconst (v := 0) hC dX7_innerOf_46 (by decide) ?_
      refine ax_iret hC hr hlocks dX7_innerOf_47 ?_
      refine ⟨?_, rfl, rfl⟩
      rw [rd_lo c1, rd_lo (by decide)]
    · exact absurd c2 (by decide)
  · refine ax_iload_n hC 1 dX7_innerOf_4 rfl rfl ?_
    refine ax_aload_n hC 0 dX7_innerOf_5 rfl rfl ?_
    refine ax_getf (v := .ref (a + 6)) hC hP.1 iX7 rfl 6 (by decide) (by decide +kernel) rfl rfl dX7_innerOf_6 ?_
    refine ax_alen (v := nI (pcap T)) hC hP.2.2.2.2.2.2.1 1 rfl rfl dX7_innerOf_9 ?_
    refine ax_icmp_ge (tgt := 22) hC dX7_innerOf_10 (by decide) (fun c3 => ?_) (fun c3 => ?_)
    · refine ax_iconst (v := (-1)) hC dX7_innerOf_22 (by decide) ?_
      refine ax_istore_n hC [(2, .int (-1)), (0, .ref a), (1, .int x)] dX7_innerOf_23 rfl (by decide) rfl ?_
      refine ax_iload_n hC 0 dX7_innerOf_24 rfl rfl ?_
      refine ax_if_lt (tgt := 46) hC dX7_innerOf_25 (by decide) (fun c4 => ?_) (fun c4 => ?_)
      · refine ax_iconst (v := 0) hC dX7_innerOf_46 (by decide) ?_
        refine ax_iret hC hr hlocks dX7_innerOf_47 ?_
        refine ⟨?_, rfl, rfl⟩
        rw [rd_hi (by omega) c3, rd_lo (by decide)]
      · exact absurd c4 (by decide)
    · refine ax_aload_n hC 0 dX7_innerOf_13 rfl rfl ?_
      refine ax_getf (v := .ref (a + 6)) hC hP.1 iX7 rfl 6 (by decide) (by decide +kernel) rfl rfl dX7_innerOf_14 ?_
      refine ax_iload_n hC 1 dX7_innerOf_17 rfl rfl ?_
      have b5 : vp_in x (pcap T) := vin_aa c1 c3 (by first | decide | omega)
      refine ax_iald hC hP.2.2.2.2.2.2.1 1 rfl b5 dX7_innerOf_18 ?_
      refine ax_goto (tgt := 23) hC dX7_innerOf_19 (by decide) ?_
      refine ax_istore_n hC [(2, .int ((pIn T) x.toNatClampNeg)), (0, .ref a), (1, .int x)] dX7_innerOf_23 rfl (by decide) rfl ?_
      refine ax_iload_n hC 0 dX7_innerOf_24 rfl rfl ?_
      refine ax_if_lt (tgt := 46) hC dX7_innerOf_25 (by decide) (fun c6 => ?_) (fun c6 => ?_)
      · refine ax_iconst (v := 0) hC dX7_innerOf_46 (by decide) ?_
        refine ax_iret hC hr hlocks dX7_innerOf_47 ?_
        refine ⟨?_, rfl, rfl⟩
        rw [rd_in b5, rd_lo c6]
      · refine ax_iload_n hC 0 dX7_innerOf_28 rfl rfl ?_
        refine ax_aload_n hC 1 dX7_innerOf_29 rfl rfl ?_
        refine ax_getf (v := .ref (a + 8)) hC hP.1 iX7 rfl 8 (by decide) (by decide +kernel) rfl rfl dX7_innerOf_30 ?_
        refine ax_alen (v := nI (pcap T)) hC hP.2.2.2.2.2.2.2.2 1 rfl rfl dX7_innerOf_33 ?_
        refine ax_icmp_ge (tgt := 46) hC dX7_innerOf_34 (by decide) (fun c7 => ?_) (fun c7 => ?_)
        · refine ax_iconst (v := 0) hC dX7_innerOf_46 (by decide) ?_
          refine ax_iret hC hr hlocks dX7_innerOf_47 ?_
          refine ⟨?_, rfl, rfl⟩
          rw [rd_in b5, rd_hi (by omega) c7]
        · refine ax_aload_n hC 1 dX7_innerOf_37 rfl rfl ?_
          refine ax_getf (v := .ref (a + 8)) hC hP.1 iX7 rfl 8 (by decide) (by decide +kernel) rfl rfl dX7_innerOf_38 ?_
          refine ax_iload_n hC 0 dX7_innerOf_41 rfl rfl ?_
          have b8 : vp_in ((pIn T) x.toNatClampNeg) (pcap T) := vin_aa c6 c7 (by first | decide | omega)
          refine ax_iald hC hP.2.2.2.2.2.2.2.2 1 rfl b8 dX7_innerOf_42 ?_
          refine ax_goto (tgt := 47) hC dX7_innerOf_43 (by decide) ?_
          refine ax_iret hC hr hlocks dX7_innerOf_47 ?_
          refine ⟨?_, rfl, rfl⟩
          rw [rd_in b5, rd_in b8]

abbrev rmX7_beginning : Room := { frames := 0, cells := 0, slots := 0, locals := 0 }
set_option maxRecDepth 100000 in
set_option maxHeartbeats 4000000 in
theorem c_X7_beginning (l : Launch) (D : va_G) (z : Nat → ClassId) (B : Heap) (lo hi : Nat) (h : Nat → Option va_E) (a : Nat) (nd : Int32) (T : PT) (hP : PrC z h a nd T) (hcap : pcap T ≤ 60) : Met l yX7_beginning wsX7_beginning rmX7_beginning (KP D vwCl B lo hi h (ty6 z) [.ref a]) (KQp D vwCl B lo hi h (ty6 z) (fun r => r = rd (pcap T) (pSt T) 0 0)) 0 0 (fun q => lo ≤ q) := by
  refine ax_met (by decide) rfl (Nat.le_of_ble_eq_true rfl) (L0 := [(0, .ref a)]) rfl ?_
  intro p e s m args below meth c hC hr hlocks hnm hargs
  have iX7 : ∀ w ∈ u_ws RX7 TX7 9, w ∈ wsX7_beginning := by decide +kernel
  refine ax_aload_n hC 0 dX7_beginning_0 rfl rfl ?_
  refine ax_getf (v := .ref (a + 8)) hC hP.1 iX7 rfl 8 (by decide) (by decide +kernel) rfl rfl dX7_beginning_1 ?_
  refine ax_alen (v := nI (pcap T)) hC hP.2.2.2.2.2.2.2.2 1 rfl rfl dX7_beginning_4 ?_
  refine ax_if_le (tgt := 17) hC dX7_beginning_5 (by decide) (fun c1 => ?_) (fun c1 => ?_)
  · refine ax_iconst (v := 0) hC dX7_beginning_17 (by decide) ?_
    refine ax_iret hC hr hlocks dX7_beginning_18 ?_
    exact ⟨(rd_hi (by omega) c1).symm, rfl, rfl⟩
  · refine ax_aload_n hC 0 dX7_beginning_8 rfl rfl ?_
    refine ax_getf (v := .ref (a + 8)) hC hP.1 iX7 rfl 8 (by decide) (by decide +kernel) rfl rfl dX7_beginning_9 ?_
    refine ax_iconst (v := 0) hC dX7_beginning_12 (by decide) ?_
    have b2 : vp_in 0 (pcap T) := vin_aa (by decide) c1 (by omega)
    refine ax_iald hC hP.2.2.2.2.2.2.2.2 1 rfl b2 dX7_beginning_13 ?_
    refine ax_goto (tgt := 18) hC dX7_beginning_14 (by decide) ?_
    refine ax_iret hC hr hlocks dX7_beginning_18 ?_
    exact ⟨(rd_in b2).symm, rfl, rfl⟩

abbrev rmX7_stepOf : Room := { frames := 0, cells := 0, slots := 0, locals := 0 }
set_option maxRecDepth 100000 in
set_option maxHeartbeats 4000000 in
theorem c_X7_stepOf (l : Launch) (D : va_G) (z : Nat → ClassId) (B : Heap) (lo hi : Nat) (h : Nat → Option va_E) (a : Nat) (nd : Int32) (T : PT) (x r : Int32) (hP : PrC z h a nd T) (hcap : pcap T ≤ 60) (hx : x.toInt < 1000) : Met l yX7_stepOf wsX7_stepOf rmX7_stepOf (KP D vwCl B lo hi h (ty6 z) [.ref a, .int x, .int r]) (KQp D vwCl B lo hi h (ty6 z) (fun v => v = stepf (pcap T) (pBr T) (pSt T) x r)) 0 0 (fun q => lo ≤ q) := by
  refine ax_met (by decide) rfl (Nat.le_of_ble_eq_true rfl) (L0 := [(0, .ref a), (1, .int x), (2, .int r)]) rfl ?_
  intro p e s m args below meth c hC hr hlocks hnm hargs
  have iX7 : ∀ w ∈ u_ws RX7 TX7 9, w ∈ wsX7_stepOf := by decide +kernel
  refine ax_iload_n hC 1 dX7_stepOf_0 rfl rfl ?_
  refine ax_bipush (v := 6) hC dX7_stepOf_1 (by decide) ?_
  refine ax_imul hC dX7_stepOf_3 ?_
  refine ax_iload_n hC 2 dX7_stepOf_4 rfl rfl ?_
  refine ax_iadd hC dX7_stepOf_5 ?_
  refine ax_istore_n hC [(3, .int ((x * 6) + r)), (0, .ref a), (1, .int x), (2, .int r)] dX7_stepOf_6 rfl (by decide) rfl ?_
  refine ax_iload_n hC 2 dX7_stepOf_7 rfl rfl ?_
  refine ax_if_lt (tgt := 30) hC dX7_stepOf_8 (by decide) (fun c1 => ?_) (fun c1 => ?_)
  · refine ax_iconst (v := 0) hC dX7_stepOf_30 (by decide) ?_
    refine ax_iret hC hr hlocks dX7_stepOf_31 ?_
    exact ⟨(stepf_xlo c1).symm, rfl, rfl⟩
  · refine ax_iload_n hC 3 dX7_stepOf_11 rfl rfl ?_
    refine ax_if_lt (tgt := 30) hC dX7_stepOf_12 (by decide) (fun c2 => ?_) (fun c2 => ?_)
    · refine ax_iconst (v := 0) hC dX7_stepOf_30 (by decide) ?_
      refine ax_iret hC hr hlocks dX7_stepOf_31 ?_
      exact ⟨(stepf_rlo c2).symm, rfl, rfl⟩
    · refine ax_iload_n hC 3 dX7_stepOf_15 rfl rfl ?_
      refine ax_bipush (v := 6) hC dX7_stepOf_16 (by decide) ?_
      refine ax_icmp_ge (tgt := 30) hC dX7_stepOf_18 (by decide) (fun c3 => ?_) (fun c3 => ?_)
      · refine ax_iconst (v := 0) hC dX7_stepOf_30 (by decide) ?_
        refine ax_iret hC hr hlocks dX7_stepOf_31 ?_
        exact ⟨(stepf_rhi c3).symm, rfl, rfl⟩
      · refine ax_iload_n hC 0 dX7_stepOf_21 rfl rfl ?_
        refine ax_aload_n hC 1 dX7_stepOf_22 rfl rfl ?_
        refine ax_getf (v := .ref (a + 7)) hC hP.1 iX7 rfl 7 (by decide) (by decide +kernel) rfl rfl dX7_stepOf_23 ?_
        refine ax_alen (v := nI (6 * pcap T)) hC hP.2.2.2.2.2.2.2.1 1 rfl rfl dX7_stepOf_26 ?_
        refine ax_icmp_lt (tgt := 32) hC dX7_stepOf_27 (by decide) (fun c4 => ?_) (fun c4 => ?_)
        · refine ax_aload_n hC 1 dX7_stepOf_32 rfl rfl ?_
          refine ax_getf (v := .ref (a + 7)) hC hP.1 iX7 rfl 7 (by decide) (by decide +kernel) rfl rfl dX7_stepOf_33 ?_
          refine ax_iload_n hC 0 dX7_stepOf_36 rfl rfl ?_
          have b5 : vp_in ((x * 6) + r) (6 * pcap T) := six_in hcap c1 hx c2 c3 c4
          refine ax_iald hC hP.2.2.2.2.2.2.2.1 1 rfl b5 dX7_stepOf_37 ?_
          refine ax_istore hC [(4, .int ((pBr T) ((x * 6) + r).toNatClampNeg)), (3, .int ((x * 6) + r)), (0, .ref a), (1, .int x), (2, .int r)] dX7_stepOf_38 (by decide) rfl ?_
          refine ax_iload hC 0 dX7_stepOf_40 rfl ?_
          refine ax_if_lt (tgt := 65) hC dX7_stepOf_42 (by decide) (fun c6 => ?_) (fun c6 => ?_)
          · refine ax_iconst (v := 0) hC dX7_stepOf_65 (by decide) ?_
            refine ax_iret hC hr hlocks dX7_stepOf_66 ?_
            exact ⟨(by rw [stepf_in hcap c1 hx c2 c3 c4, rd_lo c6]), rfl, rfl⟩
          · refine ax_iload hC 0 dX7_stepOf_45 rfl ?_
            refine ax_aload_n hC 2 dX7_stepOf_47 rfl rfl ?_
            refine ax_getf (v := .ref (a + 8)) hC hP.1 iX7 rfl 8 (by decide) (by decide +kernel) rfl rfl dX7_stepOf_48 ?_
            refine ax_alen (v := nI (pcap T)) hC hP.2.2.2.2.2.2.2.2 1 rfl rfl dX7_stepOf_51 ?_
            refine ax_icmp_ge (tgt := 65) hC dX7_stepOf_52 (by decide) (fun c7 => ?_) (fun c7 => ?_)
            · refine ax_iconst (v := 0) hC dX7_stepOf_65 (by decide) ?_
              refine ax_iret hC hr hlocks dX7_stepOf_66 ?_
              exact ⟨(by rw [stepf_in hcap c1 hx c2 c3 c4, rd_hi (by omega) c7]), rfl, rfl⟩
            · refine ax_aload_n hC 2 dX7_stepOf_55 rfl rfl ?_
              refine ax_getf (v := .ref (a + 8)) hC hP.1 iX7 rfl 8 (by decide) (by decide +kernel) rfl rfl dX7_stepOf_56 ?_
              refine ax_iload hC 0 dX7_stepOf_59 rfl ?_
              have b8 : vp_in ((pBr T) ((x * 6) + r).toNatClampNeg) (pcap T) := vin_aa c6 c7 (by first | decide | omega)
              refine ax_iald hC hP.2.2.2.2.2.2.2.2 1 rfl b8 dX7_stepOf_61 ?_
              refine ax_goto (tgt := 66) hC dX7_stepOf_62 (by decide) ?_
              refine ax_iret hC hr hlocks dX7_stepOf_66 ?_
              exact ⟨(by rw [stepf_in hcap c1 hx c2 c3 c4, rd_in b8]), rfl, rfl⟩
        · refine ax_iconst (v := 0) hC dX7_stepOf_30 (by decide) ?_
          refine ax_iret hC hr hlocks dX7_stepOf_31 ?_
          exact ⟨(stepf_out hcap c1 hx c2 c3 c4).symm, rfl, rfl⟩

abbrev rmX7_turnedKind : Room := { frames := 0, cells := 0, slots := 0, locals := 0 }
set_option maxRecDepth 100000 in
set_option maxHeartbeats 4000000 in
theorem c_X7_turnedKind (l : Launch) (D : va_G) (z : Nat → ClassId) (B : Heap) (lo hi : Nat) (h : Nat → Option va_E) (x : Int32)  : Met l yX7_turnedKind wsX7_turnedKind rmX7_turnedKind (KP D vwCl B lo hi h (ty6 z) [.int x]) (KQp D vwCl B lo hi h (ty6 z) (fun r => r = turnK x)) 0 0 (fun q => lo ≤ q) := by
  refine ax_met (by decide) rfl (Nat.le_of_ble_eq_true rfl) (L0 := [(0, .int x)]) rfl ?_
  intro p e s m args below meth c hC hr hlocks hnm hargs
  refine ax_iload_n hC 0 dX7_turnedKind_0 rfl rfl ?_
  by_cases s1 : x = 1
  · refine ax_tableIn (tgt := 32) (off := 31) hC dX7_turnedKind_1 (by rw [s1]; decide) (by rw [s1]; decide) (by rw [s1]; decide) (by decide) ?_
    refine ax_iconst (v := 2) hC dX7_turnedKind_32 (by decide) ?_
    refine ax_iret hC hr hlocks dX7_turnedKind_33 ?_
    refine ⟨?_, rfl, rfl⟩
    rw [s1]; decide
  by_cases s2 : x = 2
  · refine ax_tableIn (tgt := 34) (off := 33) hC dX7_turnedKind_1 (by rw [s2]; decide) (by rw [s2]; decide) (by rw [s2]; decide) (by decide) ?_
    refine ax_iconst (v := 1) hC dX7_turnedKind_34 (by decide) ?_
    refine ax_iret hC hr hlocks dX7_turnedKind_35 ?_
    refine ⟨?_, rfl, rfl⟩
    rw [s2]; decide
  by_cases s3 : x = 3
  · refine ax_tableIn (tgt := 36) (off := 35) hC dX7_turnedKind_1 (by rw [s3]; decide) (by rw [s3]; decide) (by rw [s3]; decide) (by decide) ?_
    refine ax_iconst (v := 4) hC dX7_turnedKind_36 (by decide) ?_
    refine ax_iret hC hr hlocks dX7_turnedKind_37 ?_
    refine ⟨?_, rfl, rfl⟩
    rw [s3]; decide
  by_cases s4 : x = 4
  · refine ax_tableIn (tgt := 38) (off := 37) hC dX7_turnedKind_1 (by rw [s4]; decide) (by rw [s4]; decide) (by rw [s4]; decide) (by decide) ?_
    refine ax_iconst (v := 3) hC dX7_turnedKind_38 (by decide) ?_
    refine ax_iret hC hr hlocks dX7_turnedKind_39 ?_
    refine ⟨?_, rfl, rfl⟩
    rw [s4]; decide
  refine ax_tableOut (tgt := 40) hC dX7_turnedKind_1 (by have q0 := i32_neL s1 (k := 1) (by decide); have q1 := i32_neL s2 (k := 2) (by decide); have q2 := i32_neL s3 (k := 3) (by decide); have q3 := i32_neL s4 (k := 4) (by decide); omega) (by decide) ?_
  refine ax_iload_n hC 0 dX7_turnedKind_40 rfl rfl ?_
  refine ax_iret hC hr hlocks dX7_turnedKind_41 ?_
  refine ⟨?_, rfl, rfl⟩
  rw [turnK, if_neg s1, if_neg s2, if_neg s3, if_neg s4]
