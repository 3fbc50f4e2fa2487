abbrev rmX8_readSort : Room := { frames := 2, cells := 0, slots := 0, locals := 41 }
set_option maxRecDepth 100000 in
set_option maxHeartbeats 4000000 in
theorem c_X8_readSort_105 (l : Launch) (D : va_G) (z : Nat → ClassId) (B : Heap) (lo hi : Nat) (h : Nat → Option va_E) (rd tp ln ap b : Nat) (G : RT) (Ar tx : Nat → Int32) (nd d op : Nat) (hR : RdS z h rd tp ln ap b G Ar tx) (htp : tp < rd) (hnd : nd < 60) (hch : tx ap = 105) (h46 : tx (ap + 1) = 46) (hat : ap + 2 ≤ ln) (hln : ln ≤ 200) : Met l yX8_readSort wsX8_readSort rmX8_readSort (KP D vwCl B lo hi h (ty6 z) [.ref rd, .int (nI nd), .int (nI op), .int (nI d)]) (KQi D vwCl B lo (ty6 z) (fun r hi' h' => r = 1 ∧ hi' = hi ∧ (∀ q, (q < rd ∨ rd + 11 ≤ q) → h' q = h q) ∧ RdS z h' rd tp ln (ap + 2) b (pK (P6 G), upd (pS (P6 G)) nd 105, pLt (P6 G), pLb (P6 G), pDp (P6 G), pIn (P6 G), pBr (P6 G), pSt (P6 G)) Ar tx)) 0 0 (fun q => lo ≤ q) := by
  obtain ⟨q0, q1, q2, q3, q4, q5, q6, q7, q8, q9, q10, q11⟩ := id hR
  refine ax_met (by decide) rfl (Nat.le_of_ble_eq_true rfl) (L0 := [(0, .ref rd), (1, .int (nI nd)), (2, .int (nI op)), (3, .int (nI d))]) rfl ?_
  intro p e s m args below meth c hC hr hlocks hnm hargs
  have iX7 : ∀ w ∈ u_ws RX7 TX7 9, w ∈ wsX8_readSort := by decide +kernel
  have iX8 : ∀ w ∈ u_ws RX8 TX8 5, w ∈ wsX8_readSort := by decide +kernel
  refine ax_aload_n hC 0 dX8_readSort_0 rfl rfl ?_
  refine ax_callVp (st := []) hC [] q0 rfl (c_X8_sign l D z B lo _ h rd tp ln ap b G Ar tx hR htp (by omega) (by omega)) (cwV 0 hC.1.2.2.2.2 gX8_readSort_X8_sign rfl rfl rfl (by decide +kernel) ⟨Nat.le_of_ble_eq_true rfl, Nat.le_of_ble_eq_true rfl⟩) rfl rfl (Nat.le_of_ble_eq_true rfl) dX8_readSort_1 ⟨Nat.le_of_ble_eq_true rfl, Nat.le_of_ble_eq_true rfl⟩ (fun r1 er2 => ?_)
  subst er2
  refine ax_eqi (y := 105) (hch) ?_
  refine ax_istore hC [(4, .int 105), (0, .ref rd), (1, .int (nI nd)), (2, .int (nI op)), (3, .int (nI d))] dX8_readSort_4 (by decide) rfl ?_
  refine ax_iload_n hC 2 dX8_readSort_6 rfl rfl ?_
  refine ax_if_lt (tgt := 37) hC dX8_readSort_7 (by decide) (fun c3 => ?_) (fun c3 => ?_)
  · exact absurd c3 (nI_pos (by omega))
  · refine ax_iload_n hC 2 dX8_readSort_10 rfl rfl ?_
    refine ax_bipush (v := 60) hC dX8_readSort_11 (by decide) ?_
    refine ax_icmp_ge (tgt := 37) hC dX8_readSort_13 (by decide) (fun c4 => ?_) (fun c4 => ?_)
    · exact absurd c4 (nI_ge (a := nd) (b := 60) (by omega) (by decide))
    · refine ax_iload hC 0 dX8_readSort_16 rfl ?_
      refine ax_bipush (v := 105) hC dX8_readSort_18 (by decide) ?_
      refine ax_icmp_eq (tgt := 39) hC dX8_readSort_20 (by decide) (fun c5 => ?_) (fun c5 => ?_)
      · refine ax_iload hC 0 dX8_readSort_39 rfl ?_
        refine ax_bipush (v := 40) hC dX8_readSort_41 (by decide) ?_
        refine ax_icmp_ne (tgt := 54) hC dX8_readSort_43 (by decide) (fun c6 => ?_) (fun c6 => ?_)
        · refine ax_aload_n hC 1 dX8_readSort_54 rfl rfl ?_
          refine ax_getf (v := .ref (rd + 1)) hC q0 iX8 rfl 0 (by decide) (by decide +kernel) rfl rfl dX8_readSort_55 ?_
          refine ax_getf (v := .ref (rd + 3)) hC q1 iX7 rfl 2 (by decide) (by decide +kernel) rfl rfl dX8_readSort_58 ?_
          refine ax_iload_n hC 2 dX8_readSort_61 rfl rfl ?_
          refine ax_iload hC 0 dX8_readSort_62 rfl ?_
          have b7 : vp_in (nI nd) 60 := vp_in_nI (by omega) (by omega)
          refine ax_iast hC q3 1 rfl b7 dX8_readSort_64 (fun h8 e9 f10 => ?_)
          rw [nI_clamp (by omega)] at e9
          have x11 : h8 rd = some (.inr (10, [.ref (rd + 1), .ref (rd + 10), .ref tp, .int (nI ln), .int (nI ap)])) := (f10 _ (by omega)).trans q0
          have x12 : h8 (rd + 1) = some (.inr (9, [.int (nI b), .ref (rd + 2), .ref (rd + 3), .ref (rd + 4), .ref (rd + 5), .ref (rd + 6), .ref (rd + 7), .ref (rd + 8), .ref (rd + 9)])) := (f10 _ (by omega)).trans q1
          have x13 : h8 (rd + 2) = some (.inl (z 1, 60, .inl (pK (P6 G)))) := (f10 _ (by omega)).trans q2
          have x14 : h8 (rd + 4) = some (.inl (z 1, 60, .inl (pLt (P6 G)))) := (f10 _ (by omega)).trans q4
          have x15 : h8 (rd + 5) = some (.inl (z 1, 60, .inl (pLb (P6 G)))) := (f10 _ (by omega)).trans q5
          have x16 : h8 (rd + 6) = some (.inl (z 1, 60, .inl (pDp (P6 G)))) := (f10 _ (by omega)).trans q6
          have x17 : h8 (rd + 7) = some (.inl (z 1, 60, .inl (pIn (P6 G)))) := (f10 _ (by omega)).trans q7
          have x18 : h8 (rd + 8) = some (.inl (z 1, 360, .inl (pBr (P6 G)))) := (f10 _ (by omega)).trans q8
          have x19 : h8 (rd + 9) = some (.inl (z 1, 60, .inl (pSt (P6 G)))) := (f10 _ (by omega)).trans q9
          have x20 : h8 (rd + 10) = some (.inl (z 1, 60, .inl (Ar))) := (f10 _ (by omega)).trans q10
          have x21 : h8 tp = some (.inl (z 1, 200, .inl (tx))) := (f10 _ (by omega)).trans q11
          refine ax_aload_n hC 1 dX8_readSort_65 rfl rfl ?_
          refine ax_dup hC dX8_readSort_66 rfl ?_
          refine ax_getf (v := .int (nI ap)) hC x11 iX8 rfl 4 (by decide) (by decide +kernel) rfl rfl dX8_readSort_67 ?_
          refine ax_iconst (v := 1) hC dX8_readSort_70 (by decide) ?_
          refine ax_iadd hC dX8_readSort_71 ?_
          refine ax_eqi (y := nI (ap + 1)) (nI_1 ap) ?_
          refine ax_putf (v := .int (nI (ap + 1))) (ty := .int) hC tyX8 x11 iX8 tyX8_ok nmX8 rfl 4 (by decide) (by decide +kernel) rfl rfl (by decide +kernel) (rfl) rfl (Nat.le_of_ble_eq_true rfl) dX8_readSort_72 (fun h22 e23 f24 => ?_)
          have e23 : h22 rd = some (.inr (10, [.ref (rd + 1), .ref (rd + 10), .ref tp, .int (nI ln), .int (nI (ap + 1))])) := e23
          have x25 : h22 (rd + 1) = some (.inr (9, [.int (nI b), .ref (rd + 2), .ref (rd + 3), .ref (rd + 4), .ref (rd + 5), .ref (rd + 6), .ref (rd + 7), .ref (rd + 8), .ref (rd + 9)])) := (f24 _ (by omega)).trans x12
          have x26 : h22 (rd + 2) = some (.inl (z 1, 60, .inl (pK (P6 G)))) := (f24 _ (by omega)).trans x13
          have x27 : h22 (rd + 4) = some (.inl (z 1, 60, .inl (pLt (P6 G)))) := (f24 _ (by omega)).trans x14
          have x28 : h22 (rd + 5) = some (.inl (z 1, 60, .inl (pLb (P6 G)))) := (f24 _ (by omega)).trans x15
          have x29 : h22 (rd + 6) = some (.inl (z 1, 60, .inl (pDp (P6 G)))) := (f24 _ (by omega)).trans x16
          have x30 : h22 (rd + 7) = some (.inl (z 1, 60, .inl (pIn (P6 G)))) := (f24 _ (by omega)).trans x17
          have x31 : h22 (rd + 8) = some (.inl (z 1, 360, .inl (pBr (P6 G)))) := (f24 _ (by omega)).trans x18
          have x32 : h22 (rd + 9) = some (.inl (z 1, 60, .inl (pSt (P6 G)))) := (f24 _ (by omega)).trans x19
          have x33 : h22 (rd + 10) = some (.inl (z 1, 60, .inl (Ar))) := (f24 _ (by omega)).trans x20
          have x34 : h22 tp = some (.inl (z 1, 200, .inl (tx))) := (f24 _ (by omega)).trans x21
          have x35 : h22 (rd + 3) = some (.inl (z 1, 60, .inl (upd (pS (P6 G)) nd 105))) := (f24 _ (by omega)).trans e9
          refine ax_iload hC 0 dX8_readSort_75 rfl ?_
          refine ax_bipush (v := 40) hC dX8_readSort_77 (by decide) ?_
          refine ax_icmp_ne (tgt := 122) hC dX8_readSort_79 (by decide) (fun c36 => ?_) (fun c36 => ?_)
          · refine ax_aload_n hC 1 dX8_readSort_122 rfl rfl ?_
            refine ax_bipush (v := 46) hC dX8_readSort_123 (by decide) ?_
            have hR37 : RdS z h22 rd tp ln (ap + 1) b (pK (P6 G), upd (pS (P6 G)) nd 105, pLt (P6 G), pLb (P6 G), pDp (P6 G), pIn (P6 G), pBr (P6 G), pSt (P6 G)) Ar tx := ⟨e23, x25, x26, x35, x27, x28, x29, x30, x31, x32, x33, x34⟩
            refine ax_callVi (st := []) hC [.int 46] e23 rfl (c_X8_goesOn_y l D z B lo _ h22 rd tp ln (ap + 1) b ((pK (P6 G), upd (pS (P6 G)) nd 105, pLt (P6 G), pLb (P6 G), pDp (P6 G), pIn (P6 G), pBr (P6 G), pSt (P6 G))) Ar tx hR37 htp 46 (by omega) (by omega) h46) (cwV 1 hC.1.2.2.2.2 gX8_readSort_X8_goesOn rfl rfl rfl (by decide +kernel) ⟨Nat.le_of_ble_eq_true rfl, Nat.le_of_ble_eq_true rfl⟩) rfl rfl (Nat.le_of_ble_eq_true rfl) dX8_readSort_125 ⟨Nat.le_of_ble_eq_true rfl, Nat.le_of_ble_eq_true rfl⟩ (fun r38 hi39 h40 hp41 => ?_)
            obtain ⟨er42, ei43, fr44, hR45⟩ := hp41
            replace ei43 := ei43.symm
            subst ei43
            subst er42
            obtain ⟨y46_0, y46_1, y46_2, y46_3, y46_4, y46_5, y46_6, y46_7, y46_8, y46_9, y46_10, y46_11⟩ := id hR45
            refine ax_zret hC hr hlocks dX8_readSort_128 (by decide) ?_
            exact ⟨rfl, rfl, fun q hq => ((fr44 q (by omega)).trans ((f24 q (by omega)).trans (f10 q (by omega)))), ⟨y46_0, y46_1, y46_2, y46_3, y46_4, y46_5, y46_6, y46_7, y46_8, y46_9, y46_10, y46_11⟩⟩
          · exact absurd c36 (by decide)
        · exact absurd c6 (by decide)
      · exact absurd c5 (by decide)

set_option maxRecDepth 100000 in
set_option maxHeartbeats 4000000 in
theorem c_X8_readSort_98 (l : Launch) (D : va_G) (z : Nat → ClassId) (B : Heap) (lo hi : Nat) (h : Nat → Option va_E) (rd tp ln ap b : Nat) (G : RT) (Ar tx : Nat → Int32) (nd d op : Nat) (hR : RdS z h rd tp ln ap b G Ar tx) (htp : tp < rd) (hnd : nd < 60) (hch : tx ap = 98) (h46 : tx (ap + 1) = 46) (hat : ap + 2 ≤ ln) (hln : ln ≤ 200) : Met l yX8_readSort wsX8_readSort rmX8_readSort (KP D vwCl B lo hi h (ty6 z) [.ref rd, .int (nI nd), .int (nI op), .int (nI d)]) (KQi D vwCl B lo (ty6 z) (fun r hi' h' => r = 1 ∧ hi' = hi ∧ (∀ q, (q < rd ∨ rd + 11 ≤ q) → h' q = h q) ∧ RdS z h' rd tp ln (ap + 2) b (pK (P6 G), upd (pS (P6 G)) nd 98, pLt (P6 G), pLb (P6 G), pDp (P6 G), pIn (P6 G), pBr (P6 G), pSt (P6 G)) Ar tx)) 0 0 (fun q => lo ≤ q) := by
  obtain ⟨q0, q1, q2, q3, q4, q5, q6, q7, q8, q9, q10, q11⟩ := id hR
  refine ax_met (by decide) rfl (Nat.le_of_ble_eq_true rfl) (L0 := [(0, .ref rd), (1, .int (nI nd)), (2, .int (nI op)), (3, .int (nI d))]) rfl ?_
  intro p e s m args below meth c hC hr hlocks hnm hargs
  have iX7 : ∀ w ∈ u_ws RX7 TX7 9, w ∈ wsX8_readSort := by decide +kernel
  have iX8 : ∀ w ∈ u_ws RX8 TX8 5, w ∈ wsX8_readSort := by decide +kernel
  refine ax_aload_n hC 0 dX8_readSort_0 rfl rfl ?_
  refine ax_callVp (st := []) hC [] q0 rfl (c_X8_sign l D z B lo _ h rd tp ln ap b G Ar tx hR htp (by omega) (by omega)) (cwV 0 hC.1.2.2.2.2 gX8_readSort_X8_sign rfl rfl rfl (by decide +kernel) ⟨Nat.le_of_ble_eq_true rfl, Nat.le_of_ble_eq_true rfl⟩) rfl rfl (Nat.le_of_ble_eq_true rfl) dX8_readSort_1 ⟨Nat.le_of_ble_eq_true rfl, Nat.le_of_ble_eq_true rfl⟩ (fun r1 er2 => ?_)
  subst er2
  refine ax_eqi (y := 98) (hch) ?_
  refine ax_istore hC [(4, .int 98), (0, .ref rd), (1, .int (nI nd)), (2, .int (nI op)), (3, .int (nI d))] dX8_readSort_4 (by decide) rfl ?_
  refine ax_iload_n hC 2 dX8_readSort_6 rfl rfl ?_
  refine ax_if_lt (tgt := 37) hC dX8_readSort_7 (by decide) (fun c3 => ?_) (fun c3 => ?_)
  · exact absurd c3 (nI_pos (by omega))
  · refine ax_iload_n hC 2 dX8_readSort_10 rfl rfl ?_
    refine ax_bipush (v := 60) hC dX8_readSort_11 (by decide) ?_
    refine ax_icmp_ge (tgt := 37) hC dX8_readSort_13 (by decide) (fun c4 => ?_) (fun c4 => ?_)
    · exact absurd c4 (nI_ge (a := nd) (b := 60) (by omega) (by decide))
    · refine ax_iload hC 0 dX8_readSort_16 rfl ?_
      refine ax_bipush (v := 105) hC dX8_readSort_18 (by decide) ?_
      refine ax_icmp_eq (tgt := 39) hC dX8_readSort_20 (by decide) (fun c5 => ?_) (fun c5 => ?_)
      · exact absurd c5 (by decide)
      · refine ax_iload hC 0 dX8_readSort_23 rfl ?_
        refine ax_bipush (v := 98) hC dX8_readSort_25 (by decide) ?_
        refine ax_icmp_eq (tgt := 39) hC dX8_readSort_27 (by decide) (fun c6 => ?_) (fun c6 => ?_)
        · refine ax_iload hC 0 dX8_readSort_39 rfl ?_
          refine ax_bipush (v := 40) hC dX8_readSort_41 (by decide) ?_
          refine ax_icmp_ne (tgt := 54) hC dX8_readSort_43 (by decide) (fun c7 => ?_) (fun c7 => ?_)
          · refine ax_aload_n hC 1 dX8_readSort_54 rfl rfl ?_
            refine ax_getf (v := .ref (rd + 1)) hC q0 iX8 rfl 0 (by decide) (by decide +kernel) rfl rfl dX8_readSort_55 ?_
            refine ax_getf (v := .ref (rd + 3)) hC q1 iX7 rfl 2 (by decide) (by decide +kernel) rfl rfl dX8_readSort_58 ?_
            refine ax_iload_n hC 2 dX8_readSort_61 rfl rfl ?_
            refine ax_iload hC 0 dX8_readSort_62 rfl ?_
            have b8 : vp_in (nI nd) 60 := vp_in_nI (by omega) (by omega)
            refine ax_iast hC q3 1 rfl b8 dX8_readSort_64 (fun h9 e10 f11 => ?_)
            rw [nI_clamp (by omega)] at e10
            have x12 : h9 rd = some (.inr (10, [.ref (rd + 1), .ref (rd + 10), .ref tp, .int (nI ln), .int (nI ap)])) := (f11 _ (by omega)).trans q0
            have x13 : h9 (rd + 1) = some (.inr (9, [.int (nI b), .ref (rd + 2), .ref (rd + 3), .ref (rd + 4), .ref (rd + 5), .ref (rd + 6), .ref (rd + 7), .ref (rd + 8), .ref (rd + 9)])) := (f11 _ (by omega)).trans q1
            have x14 : h9 (rd + 2) = some (.inl (z 1, 60, .inl (pK (P6 G)))) := (f11 _ (by omega)).trans q2
            have x15 : h9 (rd + 4) = some (.inl (z 1, 60, .inl (pLt (P6 G)))) := (f11 _ (by omega)).trans q4
            have x16 : h9 (rd + 5) = some (.inl (z 1, 60, .inl (pLb (P6 G)))) := (f11 _ (by omega)).trans q5
            have x17 : h9 (rd + 6) = some (.inl (z 1, 60, .inl (pDp (P6 G)))) := (f11 _ (by omega)).trans q6
            have x18 : h9 (rd + 7) = some (.inl (z 1, 60, .inl (pIn (P6 G)))) := (f11 _ (by omega)).trans q7
            have x19 : h9 (rd + 8) = some (.inl (z 1, 360, .inl (pBr (P6 G)))) := (f11 _ (by omega)).trans q8
            have x20 : h9 (rd + 9) = some (.inl (z 1, 60, .inl (pSt (P6 G)))) := (f11 _ (by omega)).trans q9
            have x21 : h9 (rd + 10) = some (.inl (z 1, 60, .inl (Ar))) := (f11 _ (by omega)).trans q10
            have x22 : h9 tp = some (.inl (z 1, 200, .inl (tx))) := (f11 _ (by omega)).trans q11
            refine ax_aload_n hC 1 dX8_readSort_65 rfl rfl ?_
            refine ax_dup hC dX8_readSort_66 rfl ?_
            refine ax_getf (v := .int (nI ap)) hC x12 iX8 rfl 4 (by decide) (by decide +kernel) rfl rfl dX8_readSort_67 ?_
            refine ax_iconst (v := 1) hC dX8_readSort_70 (by decide) ?_
            refine ax_iadd hC dX8_readSort_71 ?_
            refine ax_eqi (y := nI (ap + 1)) (nI_1 ap) ?_
            refine ax_putf (v := .int (nI (ap + 1))) (ty := .int) hC tyX8 x12 iX8 tyX8_ok nmX8 rfl 4 (by decide) (by decide +kernel) rfl rfl (by decide +kernel) (rfl) rfl (Nat.le_of_ble_eq_true rfl) dX8_readSort_72 (fun h23 e24 f25 => ?_)
            have e24 : h23 rd = some (.inr (10, [.ref (rd + 1), .ref (rd + 10), .ref tp, .int (nI ln), .int (nI (ap + 1))])) := e24
            have x26 : h23 (rd + 1) = some (.inr (9, [.int (nI b), .ref (rd + 2), .ref (rd + 3), .ref (rd + 4), .ref (rd + 5), .ref (rd + 6), .ref (rd + 7), .ref (rd + 8), .ref (rd + 9)])) := (f25 _ (by omega)).trans x13
            have x27 : h23 (rd + 2) = some (.inl (z 1, 60, .inl (pK (P6 G)))) := (f25 _ (by omega)).trans x14
            have x28 : h23 (rd + 4) = some (.inl (z 1, 60, .inl (pLt (P6 G)))) := (f25 _ (by omega)).trans x15
            have x29 : h23 (rd + 5) = some (.inl (z 1, 60, .inl (pLb (P6 G)))) := (f25 _ (by omega)).trans x16
            have x30 : h23 (rd + 6) = some (.inl (z 1, 60, .inl (pDp (P6 G)))) := (f25 _ (by omega)).trans x17
            have x31 : h23 (rd + 7) = some (.inl (z 1, 60, .inl (pIn (P6 G)))) := (f25 _ (by omega)).trans x18
            have x32 : h23 (rd + 8) = some (.inl (z 1, 360, .inl (pBr (P6 G)))) := (f25 _ (by omega)).trans x19
            have x33 : h23 (rd + 9) = some (.inl (z 1, 60, .inl (pSt (P6 G)))) := (f25 _ (by omega)).trans x20
            have x34 : h23 (rd + 10) = some (.inl (z 1, 60, .inl (Ar))) := (f25 _ (by omega)).trans x21
            have x35 : h23 tp = some (.inl (z 1, 200, .inl (tx))) := (f25 _ (by omega)).trans x22
            have x36 : h23 (rd + 3) = some (.inl (z 1, 60, .inl (upd (pS (P6 G)) nd 98))) := (f25 _ (by omega)).trans e10
            refine ax_iload hC 0 dX8_readSort_75 rfl ?_
            refine ax_bipush (v := 40) hC dX8_readSort_77 (by decide) ?_
            refine ax_icmp_ne (tgt := 122) hC dX8_readSort_79 (by decide) (fun c37 => ?_) (fun c37 => ?_)
            · refine ax_aload_n hC 1 dX8_readSort_122 rfl rfl ?_
              refine ax_bipush (v := 46) hC dX8_readSort_123 (by decide) ?_
              have hR38 : RdS z h23 rd tp ln (ap + 1) b (pK (P6 G), upd (pS (P6 G)) nd 98, pLt (P6 G), pLb (P6 G), pDp (P6 G), pIn (P6 G), pBr (P6 G), pSt (P6 G)) Ar tx := ⟨e24, x26, x27, x36, x28, x29, x30, x31, x32, x33, x34, x35⟩
              refine ax_callVi (st := []) hC [.int 46] e24 rfl (c_X8_goesOn_y l D z B lo _ h23 rd tp ln (ap + 1) b ((pK (P6 G), upd (pS (P6 G)) nd 98, pLt (P6 G), pLb (P6 G), pDp (P6 G), pIn (P6 G), pBr (P6 G), pSt (P6 G))) Ar tx hR38 htp 46 (by omega) (by omega) h46) (cwV 1 hC.1.2.2.2.2 gX8_readSort_X8_goesOn rfl rfl rfl (by decide +kernel) ⟨Nat.le_of_ble_eq_true rfl, Nat.le_of_ble_eq_true rfl⟩) rfl rfl (Nat.le_of_ble_eq_true rfl) dX8_readSort_125 ⟨Nat.le_of_ble_eq_true rfl, Nat.le_of_ble_eq_true rfl⟩ (fun r39 hi40 h41 hp42 => ?_)
              obtain ⟨er43, ei44, fr45, hR46⟩ := hp42
              replace ei44 := ei44.symm
              subst ei44
              subst er43
              obtain ⟨y47_0, y47_1, y47_2, y47_3, y47_4, y47_5, y47_6, y47_7, y47_8, y47_9, y47_10, y47_11⟩ := id hR46
              refine ax_zret hC hr hlocks dX8_readSort_128 (by decide) ?_
              exact ⟨rfl, rfl, fun q hq => ((fr45 q (by omega)).trans ((f25 q (by omega)).trans (f11 q (by omega)))), ⟨y47_0, y47_1, y47_2, y47_3, y47_4, y47_5, y47_6, y47_7, y47_8, y47_9, y47_10, y47_11⟩⟩
            · exact absurd c37 (by decide)
          · exact absurd c7 (by decide)
        · exact absurd c6 (by decide)

set_option maxRecDepth 100000 in
set_option maxHeartbeats 4000000 in
theorem c_X8_readSort_b (l : Launch) (D : va_G) (z : Nat → ClassId) (B : Heap) (lo hi : Nat) (h : Nat → Option va_E) (rd tp ln ap b : Nat) (G : RT) (Ar tx : Nat → Int32) (nd d op nv : Nat) (w' : Bool) (T2 : Tre) (E : Nat → Nat) (hR : RdS z h rd tp ln ap b G Ar tx) (htp : tp < rd) (hT : TalkC nv) (hnd : nd < b) (hb : b + siz nv w' T2 ≤ 60) (hop : op + 1 + nv ≤ 8) (hok : okT nv 0 T2) (hch : tx ap = 40) (htx : TxA tx (ap + 1) (txt nv w' 0 T2)) (h41 : tx (ap + 1 + (txt nv w' 0 T2).length) = 41) (h46 : tx (ap + 1 + (txt nv w' 0 T2).length + 1) = 46) (hat : ap + 1 + (txt nv w' 0 T2).length + 2 ≤ ln) (hln : ln ≤ 200) : Met l yX8_readSort wsX8_readSort (rmSb nv) (KP D vwCl B lo hi h (ty6 z) [.ref rd, .int (nI nd), .int (nI op), .int (nI d)]) (KQi D vwCl B lo (ty6 z) (fun r hi' h' => r = 1 ∧ hi' = hi ∧ (∀ q, (q < rd ∨ rd + 11 ≤ q) → h' q = h q) ∧ ∃ G' Ar', RdS z h' rd tp ln (ap + 1 + (txt nv w' 0 T2).length + 2) (b + siz nv w' T2) (pK (P6 G'), pS (P6 G'), pLt (P6 G'), pLb (P6 G'), pDp (P6 G'), upd (pIn (P6 G')) nd (nI b), pBr (P6 G'), pSt (P6 G')) Ar' tx ∧ EqB b (P6 (pK (P6 G), upd (pS (P6 G)) nd 40, pLt (P6 G), pLb (P6 G), pDp (P6 G), pIn (P6 G), pBr (P6 G), pSt (P6 G))) (P6 G') ∧ (∀ i, i < b → Ar' i = Ar i) ∧ AtT (P6 G') nv w' 0 T2 (d + 1) b E)) 0 0 (fun q => lo ≤ q) := by
  obtain ⟨q0, q1, q2, q3, q4, q5, q6, q7, q8, q9, q10, q11⟩ := id hR
  refine ax_met (by decide) rfl (Nat.le_of_ble_eq_true rfl) (L0 := [(0, .ref rd), (1, .int (nI nd)), (2, .int (nI op)), (3, .int (nI d))]) rfl ?_
  intro p e s m args below meth c hC hr hlocks hnm hargs
  have iX7 : ∀ w ∈ u_ws RX7 TX7 9, w ∈ wsX8_readSort := by decide +kernel
  have iX8 : ∀ w ∈ u_ws RX8 TX8 5, w ∈ wsX8_readSort := by decide +kernel
  have hl0 := txt_pos nv w' 0 T2
  have hs0 := siz_pos nv w' T2
  refine ax_aload_n hC 0 dX8_readSort_0 rfl rfl ?_
  refine ax_callVp (st := []) hC [] q0 rfl (c_X8_sign l D z B lo _ h rd tp ln ap b G Ar tx hR htp (by omega) (by omega)) (cwV 0 hC.1.2.2.2.2 gX8_readSort_X8_sign rfl rfl rfl (by decide +kernel) ⟨show 0 + 1 ≤ 12 + 3 * nv by omega, show 8 + (1 + 11) + (0) ≤ 500 + 200 * nv by omega⟩) rfl rfl (Nat.le_of_ble_eq_true rfl) dX8_readSort_1 ⟨Nat.le_of_ble_eq_true rfl, Nat.le_of_ble_eq_true rfl⟩ (fun r1 er2 => ?_)
  subst er2
  refine ax_eqi (y := 40) (hch) ?_
  refine ax_istore hC [(4, .int 40), (0, .ref rd), (1, .int (nI nd)), (2, .int (nI op)), (3, .int (nI d))] dX8_readSort_4 (by decide) rfl ?_
  refine ax_iload_n hC 2 dX8_readSort_6 rfl rfl ?_
  refine ax_if_lt (tgt := 37) hC dX8_readSort_7 (by decide) (fun c3 => ?_) (fun c3 => ?_)
  · exact absurd c3 (nI_pos (by omega))
  · refine ax_iload_n hC 2 dX8_readSort_10 rfl rfl ?_
    refine ax_bipush (v := 60) hC dX8_readSort_11 (by decide) ?_
    refine ax_icmp_ge (tgt := 37) hC dX8_readSort_13 (by decide) (fun c4 => ?_) (fun c4 => ?_)
    · exact absurd c4 (nI_ge (a := nd) (b := 60) (by omega) (by decide))
    · refine ax_iload hC 0 dX8_readSort_16 rfl ?_
      refine ax_bipush (v := 105) hC dX8_readSort_18 (by decide) ?_
      refine ax_icmp_eq (tgt := 39) hC dX8_readSort_20 (by decide) (fun c5 => ?_) (fun c5 => ?_)
      · exact absurd c5 (by decide)
      · refine ax_iload hC 0 dX8_readSort_23 rfl ?_
        refine ax_bipush (v := 98) hC dX8_readSort_25 (by decide) ?_
        refine ax_icmp_eq (tgt := 39) hC dX8_readSort_27 (by decide) (fun c6 => ?_) (fun c6 => ?_)
        · exact absurd c6 (by decide)
        · refine ax_iload hC 0 dX8_readSort_30 rfl ?_
          refine ax_bipush (v := 40) hC dX8_readSort_32 (by decide) ?_
          refine ax_icmp_eq (tgt := 39) hC dX8_readSort_34 (by decide) (fun c7 => ?_) (fun c7 => ?_)
          · refine ax_iload hC 0 dX8_readSort_39 rfl ?_
            refine ax_bipush (v := 40) hC dX8_readSort_41 (by decide) ?_
            refine ax_icmp_ne (tgt := 54) hC dX8_readSort_43 (by decide) (fun c8 => ?_) (fun c8 => ?_)
            · exact absurd c8 (by decide)
            · refine ax_iload_n hC 3 dX8_readSort_46 rfl rfl ?_
              refine ax_bipush (v := 8) hC dX8_readSort_47 (by decide) ?_
              refine ax_icmp_lt (tgt := 54) hC dX8_readSort_49 (by decide) (fun c9 => ?_) (fun c9 => ?_)
              · refine ax_aload_n hC 1 dX8_readSort_54 rfl rfl ?_
                refine ax_getf (v := .ref (rd + 1)) hC q0 iX8 rfl 0 (by decide) (by decide +kernel) rfl rfl dX8_readSort_55 ?_
                refine ax_getf (v := .ref (rd + 3)) hC q1 iX7 rfl 2 (by decide) (by decide +kernel) rfl rfl dX8_readSort_58 ?_
                refine ax_iload_n hC 2 dX8_readSort_61 rfl rfl ?_
                refine ax_iload hC 0 dX8_readSort_62 rfl ?_
                have b10 : vp_in (nI nd) 60 := vp_in_nI (by omega) (by omega)
                refine ax_iast hC q3 1 rfl b10 dX8_readSort_64 (fun h11 e12 f13 => ?_)
                rw [nI_clamp (by omega)] at e12
                have x14 : h11 rd = some (.inr (10, [.ref (rd + 1), .ref (rd + 10), .ref tp, .int (nI ln), .int (nI ap)])) := (f13 _ (by omega)).trans q0
                have x15 : h11 (rd + 1) = some (.inr (9, [.int (nI b), .ref (rd + 2), .ref (rd + 3), .ref (rd + 4), .ref (rd + 5), .ref (rd + 6), .ref (rd + 7), .ref (rd + 8), .ref (rd + 9)])) := (f13 _ (by omega)).trans q1
                have x16 : h11 (rd + 2) = some (.inl (z 1, 60, .inl (pK (P6 G)))) := (f13 _ (by omega)).trans q2
                have x17 : h11 (rd + 4) = some (.inl (z 1, 60, .inl (pLt (P6 G)))) := (f13 _ (by omega)).trans q4
                have x18 : h11 (rd + 5) = some (.inl (z 1, 60, .inl (pLb (P6 G)))) := (f13 _ (by omega)).trans q5
                have x19 : h11 (rd + 6) = some (.inl (z 1, 60, .inl (pDp (P6 G)))) := (f13 _ (by omega)).trans q6
                have x20 : h11 (rd + 7) = some (.inl (z 1, 60, .inl (pIn (P6 G)))) := (f13 _ (by omega)).trans q7
                have x21 : h11 (rd + 8) = some (.inl (z 1, 360, .inl (pBr (P6 G)))) := (f13 _ (by omega)).trans q8
                have x22 : h11 (rd + 9) = some (.inl (z 1, 60, .inl (pSt (P6 G)))) := (f13 _ (by omega)).trans q9
                have x23 : h11 (rd + 10) = some (.inl (z 1, 60, .inl (Ar))) := (f13 _ (by omega)).trans q10
                have x24 : h11 tp = some (.inl (z 1, 200, .inl (tx))) := (f13 _ (by omega)).trans q11
                refine ax_aload_n hC 1 dX8_readSort_65 rfl rfl ?_
                refine ax_dup hC dX8_readSort_66 rfl ?_
                refine ax_getf (v := .int (nI ap)) hC x14 iX8 rfl 4 (by decide) (by decide +kernel) rfl rfl dX8_readSort_67 ?_
                refine ax_iconst (v := 1) hC dX8_readSort_70 (by decide) ?_
                refine ax_iadd hC dX8_readSort_71 ?_
                refine ax_eqi (y := nI (ap + 1)) (nI_1 ap) ?_
                refine ax_putf (v := .int (nI (ap + 1))) (ty := .int) hC tyX8 x14 iX8 tyX8_ok nmX8 rfl 4 (by decide) (by decide +kernel) rfl rfl (by decide +kernel) (rfl) rfl (Nat.le_of_ble_eq_true rfl) dX8_readSort_72 (fun h25 e26 f27 => ?_)
                have e26 : h25 rd = some (.inr (10, [.ref (rd + 1), .ref (rd + 10), .ref tp, .int (nI ln), .int (nI (ap + 1))])) := e26
                have x28 : h25 (rd + 1) = some (.inr (9, [.int (nI b), .ref (rd + 2), .ref (rd + 3), .ref (rd + 4), .ref (rd + 5), .ref (rd + 6), .ref (rd + 7), .ref (rd + 8), .ref (rd + 9)])) := (f27 _ (by omega)).trans x15
                have x29 : h25 (rd + 2) = some (.inl (z 1, 60, .inl (pK (P6 G)))) := (f27 _ (by omega)).trans x16
                have x30 : h25 (rd + 4) = some (.inl (z 1, 60, .inl (pLt (P6 G)))) := (f27 _ (by omega)).trans x17
                have x31 : h25 (rd + 5) = some (.inl (z 1, 60, .inl (pLb (P6 G)))) := (f27 _ (by omega)).trans x18
                have x32 : h25 (rd + 6) = some (.inl (z 1, 60, .inl (pDp (P6 G)))) := (f27 _ (by omega)).trans x19
                have x33 : h25 (rd + 7) = some (.inl (z 1, 60, .inl (pIn (P6 G)))) := (f27 _ (by omega)).trans x20
                have x34 : h25 (rd + 8) = some (.inl (z 1, 360, .inl (pBr (P6 G)))) := (f27 _ (by omega)).trans x21
                have x35 : h25 (rd + 9) = some (.inl (z 1, 60, .inl (pSt (P6 G)))) := (f27 _ (by omega)).trans x22
                have x36 : h25 (rd + 10) = some (.inl (z 1, 60, .inl (Ar))) := (f27 _ (by omega)).trans x23
                have x37 : h25 tp = some (.inl (z 1, 200, .inl (tx))) := (f27 _ (by omega)).trans x24
                have x38 : h25 (rd + 3) = some (.inl (z 1, 60, .inl (upd (pS (P6 G)) nd 40))) := (f27 _ (by omega)).trans e12
                refine ax_iload hC 0 dX8_readSort_75 rfl ?_
                refine ax_bipush (v := 40) hC dX8_readSort_77 (by decide) ?_
                refine ax_icmp_ne (tgt := 122) hC dX8_readSort_79 (by decide) (fun c39 => ?_) (fun c39 => ?_)
                · exact absurd c39 (by decide)
                · refine ax_aload_n hC 1 dX8_readSort_82 rfl rfl ?_
                  refine ax_iconst (v := (-1)) hC dX8_readSort_83 (by decide) ?_
                  refine ax_iload_n hC 3 dX8_readSort_84 rfl rfl ?_
                  refine ax_iconst (v := 1) hC dX8_readSort_85 (by decide) ?_
                  refine ax_iadd hC dX8_readSort_86 ?_
                  refine ax_eqi (y := nI (op + 1)) (nI_1 op) ?_
                  refine ax_iload_n hC 4 dX8_readSort_87 rfl rfl ?_
                  refine ax_iconst (v := 1) hC dX8_readSort_88 (by decide) ?_
                  refine ax_iadd hC dX8_readSort_89 ?_
                  refine ax_eqi (y := nI (d + 1)) (nI_1 d) ?_
                  have hR40 : RdS z h25 rd tp ln (ap + 1) b (pK (P6 G), upd (pS (P6 G)) nd 40, pLt (P6 G), pLb (P6 G), pDp (P6 G), pIn (P6 G), pBr (P6 G), pSt (P6 G)) Ar tx := ⟨e26, x28, x29, x38, x30, x31, x32, x33, x34, x35, x36, x37⟩
                  refine ax_callVi (st := []) hC [.int (-1), .int (nI (op + 1)), .int (nI (d + 1))] e26 rfl (hT w' 0 T2 E (d + 1) (op + 1) (-1) l D z B lo _ h25 rd tp ln (ap + 1) b ((pK (P6 G), upd (pS (P6 G)) nd 40, pLt (P6 G), pLb (P6 G), pDp (P6 G), pIn (P6 G), pBr (P6 G), pSt (P6 G))) Ar tx hR40 htp hok LpsOK.none htx (by omega) (by omega) (by omega) (by omega)) (cwV 3 hC.1.2.2.2.2 gX8_readSort_X8_readTalk rfl rfl rfl (by decide +kernel) ⟨show 10 + 3 * nv + 1 ≤ 12 + 3 * nv by omega, show 8 + (8 + 11) + (400 + 200 * nv) ≤ 500 + 200 * nv by omega⟩) rfl rfl (Nat.le_of_ble_eq_true rfl) dX8_readSort_90 ⟨Nat.le_of_ble_eq_true rfl, Nat.le_of_ble_eq_true rfl⟩ (fun r41 hi42 h43 hp44 => ?_)
                  obtain ⟨er45, ei46, fr47, G48, A49, hR50, he51, ha52, ht53⟩ := hp44
                  replace ei46 := ei46.symm
                  subst ei46
                  subst er45
                  obtain ⟨y54_0, y54_1, y54_2, y54_3, y54_4, y54_5, y54_6, y54_7, y54_8, y54_9, y54_10, y54_11⟩ := id hR50
                  refine ax_istore hC [(5, .int (nI b)), (4, .int 40), (0, .ref rd), (1, .int (nI nd)), (2, .int (nI op)), (3, .int (nI d))] dX8_readSort_93 (by decide) rfl ?_
                  refine ax_iload hC 0 dX8_readSort_95 rfl ?_
                  refine ax_if_lt (tgt := 109) hC dX8_readSort_97 (by decide) (fun c55 => ?_) (fun c55 => ?_)
                  · exact absurd c55 (nI_pos (by omega))
                  · refine ax_aload_n hC 2 dX8_readSort_100 rfl rfl ?_
                    refine ax_bipush (v := 41) hC dX8_readSort_101 (by decide) ?_
                    refine ax_callVi (st := []) hC [.int 41] y54_0 rfl (c_X8_goesOn_y l D z B lo _ h43 rd tp ln (ap + 1 + (txt nv w' 0 T2).length) (b + siz nv w' T2) G48 A49 tx hR50 htp 41 (by omega) (by omega) h41) (cwV 1 hC.1.2.2.2.2 gX8_readSort_X8_goesOn rfl rfl rfl (by decide +kernel) ⟨show 1 + 1 ≤ 12 + 3 * nv by omega, show 8 + (2 + 11) + (20) ≤ 500 + 200 * nv by omega⟩) rfl rfl (Nat.le_of_ble_eq_true rfl) dX8_readSort_103 ⟨Nat.le_of_ble_eq_true rfl, Nat.le_of_ble_eq_true rfl⟩ (fun r56 hi57 h58 hp59 => ?_)
                    obtain ⟨er60, ei61, fr62, hR63⟩ := hp59
                    replace ei61 := ei61.symm
                    subst ei61
                    subst er60
                    obtain ⟨y64_0, y64_1, y64_2, y64_3, y64_4, y64_5, y64_6, y64_7, y64_8, y64_9, y64_10, y64_11⟩ := id hR63
                    refine ax_if_ne (tgt := 111) hC dX8_readSort_106 (by decide) (fun c65 => ?_) (fun c65 => ?_)
                    · refine ax_aload_n hC 2 dX8_readSort_111 rfl rfl ?_
                      refine ax_getf (v := .ref (rd + 1)) hC y64_0 iX8 rfl 0 (by decide) (by decide +kernel) rfl rfl dX8_readSort_112 ?_
                      refine ax_getf (v := .ref (rd + 7)) hC y64_1 iX7 rfl 6 (by decide) (by decide +kernel) rfl rfl dX8_readSort_115 ?_
                      refine ax_iload_n hC 3 dX8_readSort_118 rfl rfl ?_
                      refine ax_iload hC 0 dX8_readSort_119 rfl ?_
                      have b66 : vp_in (nI nd) 60 := vp_in_nI (by omega) (by omega)
                      refine ax_iast hC y64_7 1 rfl b66 dX8_readSort_121 (fun h67 e68 f69 => ?_)
                      rw [nI_clamp (by omega)] at e68
                      have x70 : h67 rd = some (.inr (10, [.ref (rd + 1), .ref (rd + 10), .ref tp, .int (nI ln), .int (nI (ap + 1 + (txt nv w' 0 T2).length + 1))])) := (f69 _ (by omega)).trans y64_0
                      have x71 : h67 (rd + 1) = some (.inr (9, [.int (nI (b + siz nv w' T2)), .ref (rd + 2), .ref (rd + 3), .ref (rd + 4), .ref (rd + 5), .ref (rd + 6), .ref (rd + 7), .ref (rd + 8), .ref (rd + 9)])) := (f69 _ (by omega)).trans y64_1
                      have x72 : h67 (rd + 2) = some (.inl (z 1, 60, .inl (pK (P6 G48)))) := (f69 _ (by omega)).trans y64_2
                      have x73 : h67 (rd + 3) = some (.inl (z 1, 60, .inl (pS (P6 G48)))) := (f69 _ (by omega)).trans y64_3
                      have x74 : h67 (rd + 4) = some (.inl (z 1, 60, .inl (pLt (P6 G48)))) := (f69 _ (by omega)).trans y64_4
                      have x75 : h67 (rd + 5) = some (.inl (z 1, 60, .inl (pLb (P6 G48)))) := (f69 _ (by omega)).trans y64_5
                      have x76 : h67 (rd + 6) = some (.inl (z 1, 60, .inl (pDp (P6 G48)))) := (f69 _ (by omega)).trans y64_6
                      have x77 : h67 (rd + 8) = some (.inl (z 1, 360, .inl (pBr (P6 G48)))) := (f69 _ (by omega)).trans y64_8
                      have x78 : h67 (rd + 9) = some (.inl (z 1, 60, .inl (pSt (P6 G48)))) := (f69 _ (by omega)).trans y64_9
                      have x79 : h67 (rd + 10) = some (.inl (z 1, 60, .inl (A49))) := (f69 _ (by omega)).trans y64_10
                      have x80 : h67 tp = some (.inl (z 1, 200, .inl (tx))) := (f69 _ (by omega)).trans y64_11
                      refine ax_aload_n hC 2 dX8_readSort_122 rfl rfl ?_
                      refine ax_bipush (v := 46) hC dX8_readSort_123 (by decide) ?_
                      have hR81 : RdS z h67 rd tp ln (ap + 1 + (txt nv w' 0 T2).length + 1) (b + siz nv w' T2) (pK (P6 G48), pS (P6 G48), pLt (P6 G48), pLb (P6 G48), pDp (P6 G48), upd (pIn (P6 G48)) nd (nI b), pBr (P6 G48), pSt (P6 G48)) A49 tx := ⟨x70, x71, x72, x73, x74, x75, x76, e68, x77, x78, x79, x80⟩
                      refine ax_callVi (st := []) hC [.int 46] x70 rfl (c_X8_goesOn_y l D z B lo _ h67 rd tp ln (ap + 1 + (txt nv w' 0 T2).length + 1) (b + siz nv w' T2) ((pK (P6 G48), pS (P6 G48), pLt (P6 G48), pLb (P6 G48), pDp (P6 G48), upd (pIn (P6 G48)) nd (nI b), pBr (P6 G48), pSt (P6 G48))) A49 tx hR81 htp 46 (by omega) (by omega) h46) (cwV 1 hC.1.2.2.2.2 gX8_readSort_X8_goesOn rfl rfl rfl (by decide +kernel) ⟨show 1 + 1 ≤ 12 + 3 * nv by omega, show 8 + (2 + 11) + (20) ≤ 500 + 200 * nv by omega⟩) rfl rfl (Nat.le_of_ble_eq_true rfl) dX8_readSort_125 ⟨Nat.le_of_ble_eq_true rfl, Nat.le_of_ble_eq_true rfl⟩ (fun r82 hi83 h84 hp85 => ?_)
                      obtain ⟨er86, ei87, fr88, hR89⟩ := hp85
                      replace ei87 := ei87.symm
                      subst ei87
                      subst er86
                      obtain ⟨y90_0, y90_1, y90_2, y90_3, y90_4, y90_5, y90_6, y90_7, y90_8, y90_9, y90_10, y90_11⟩ := id hR89
                      refine ax_zret hC hr hlocks dX8_readSort_128 (by decide) ?_
                      exact ⟨rfl, rfl, fun q hq => ((fr88 q (by omega)).trans ((f69 q (by omega)).trans ((fr62 q (by omega)).trans ((fr47 q (by omega)).trans ((f27 q (by omega)).trans (f13 q (by omega))))))), G48, A49, ⟨y90_0, y90_1, y90_2, y90_3, y90_4, y90_5, y90_6, y90_7, y90_8, y90_9, y90_10, y90_11⟩, he51, ha52, ht53⟩
                    · exact absurd c65 (by decide)
              · exact absurd (nI_lt (a := op) (b := 8) (by omega) (by decide)) c9
          · exact absurd c7 (by decide)

theorem tEnd_tx (m : Nat) (w : Bool) (k : Nat) {tx : Nat → Int32} {a : Nat} (h : tx a = 48) : TxA tx a (txt m w k tEnd) := by
  cases m <;> exact ⟨h, trivial⟩
theorem tEnd_len (m : Nat) (w : Bool) (k : Nat) : (txt m w k tEnd).length = 1 := by cases m <;> rfl
theorem tEnd_siz (m : Nat) (w : Bool) : siz m w tEnd = 1 := by cases m <;> rfl
theorem tEnd_ok {m k : Nat} {T : Tre} (h : okT m k T) : okT m k tEnd := by
  cases m
  · exact ⟨h.1, fun q => absurd q (by decide)⟩
  · refine ⟨h.1, fun q => absurd q (by decide), fun q => absurd q (by decide), fun q => absurd q (by decide), fun q => absurd q (by decide), fun q => absurd q (by decide), fun q => absurd q (by decide)⟩
theorem tEnd_at {F : PT} {m : Nat} {w : Bool} {k d b : Nat} {E : Nat → Nat} (h : AtT F m w k tEnd d b E) : rowIs F b 0 0 0 d := by
  cases m <;> exact h
set_option maxRecDepth 100000 in
set_option maxHeartbeats 4000000 in
theorem c_X8_readBraces_2 (l : Launch) (D : va_G) (z : Nat → ClassId) (B : Heap) (lo hi : Nat) (h : Nat → Option va_E) (rd tp ln ap b : Nat) (G : RT) (Ar tx : Nat → Int32) (nd d op nv k : Nat) (w : Bool) (T0 T1 : Tre) (E : Nat → Nat) (hR : RdS z h rd tp ln ap b G Ar tx) (htp : tp < rd) (hT : TalkC nv) (hnd : nd < b) (hb : b + siz nv w T0 + siz nv w T1 ≤ 60) (hop : op + 1 + nv ≤ 8) (hlb : pLb (P6 G) nd = 0) (hLp : LpsOK G Ar b k E (nI nd)) (hk0 : okT nv k T0) (hk1 : okT nv k T1) (a0 : tx ap = 123) (a1 : tx (ap + 1) = 97) (a2 : tx (ap + 2) = 58) (ht0 : TxA tx (ap + 3) (txt nv w k T0)) (a3 : tx (ap + 3 + (txt nv w k T0).length) = 44) (a4 : tx (ap + 3 + (txt nv w k T0).length + 1) = 98) (a5 : tx (ap + 3 + (txt nv w k T0).length + 2) = 58) (ht1 : TxA tx (ap + 3 + (txt nv w k T0).length + 3) (txt nv w k T1)) (a6 : tx (ap + 3 + (txt nv w k T0).length + 3 + (txt nv w k T1).length) = 125) (hat : ap + 3 + (txt nv w k T0).length + 3 + (txt nv w k T1).length + 1 ≤ ln) (hln : ln ≤ 200) : Met l yX8_readBraces wsX8_readBraces (rmSb nv) (KP D vwCl B lo hi h (ty6 z) [.ref rd, .int (nI nd), .int (nI op), .int (nI d)]) (KQi D vwCl B lo (ty6 z) (fun r hi' h' => r = 1 ∧ hi' = hi ∧ (∀ q, (q < rd ∨ rd + 11 ≤ q) → h' q = h q) ∧ ∃ G' Ar', RdS z h' rd tp ln (ap + 3 + (txt nv w k T0).length + 3 + (txt nv w k T1).length + 1) (b + siz nv w T0 + siz nv w T1) G' Ar' tx ∧ BrcR false nv w k T0 T1 d nd b E G Ar G' Ar')) 0 0 (fun q => lo ≤ q) := by
  obtain ⟨q0, q1, q2, q3, q4, q5, q6, q7, q8, q9, q10, q11⟩ := id hR
  refine ax_met (by decide) rfl (Nat.le_of_ble_eq_true rfl) (L0 := [(0, .ref rd), (1, .int (nI nd)), (2, .int (nI op)), (3, .int (nI d))]) rfl ?_
  intro p e s m args below meth c hC hr hlocks hnm hargs
  have iX8 : ∀ w ∈ u_ws RX8 TX8 5, w ∈ wsX8_readBraces := by decide +kernel
  have hl0 := txt_pos nv w k T0
  have hs0 := siz_pos nv w T0
  have hl1 := txt_pos nv w k T1
  have hs1 := siz_pos nv w T1
  have okE : okT nv k tEnd := tEnd_ok hk0
  refine ax_aload_n hC 0 dX8_readBraces_0 rfl rfl ?_
  refine ax_callVp (st := []) hC [] q0 rfl (c_X8_sign l D z B lo _ h rd tp ln ap b G Ar tx hR htp (by omega) (by omega)) (cwV 0 hC.1.2.2.2.2 gX8_readBraces_X8_sign rfl rfl rfl (by decide +kernel) ⟨show 0 + 1 ≤ 12 + 3 * nv by omega, show 8 + (1 + 11) + (0) ≤ 500 + 200 * nv by omega⟩) rfl rfl (Nat.le_of_ble_eq_true rfl) dX8_readBraces_1 ⟨Nat.le_of_ble_eq_true rfl, Nat.le_of_ble_eq_true rfl⟩ (fun r1 er2 => ?_)
  subst er2
  refine ax_eqi (y := 123) a0 ?_
  refine ax_bipush (v := 123) hC dX8_readBraces_4 (by decide) ?_
  refine ax_icmp_ne (tgt := 15) hC dX8_readBraces_6 (by decide) (fun c3 => ?_) (fun c3 => ?_)
  · exact absurd c3 (by decide)
  · refine ax_iload_n hC 2 dX8_readBraces_9 rfl rfl ?_
    refine ax_bipush (v := 8) hC dX8_readBraces_10 (by decide) ?_
    refine ax_icmp_lt (tgt := 17) hC dX8_readBraces_12 (by decide) (fun c4 => ?_) (fun c4 => ?_)
    · refine ax_aload_n hC 0 dX8_readBraces_17 rfl rfl ?_
      refine ax_dup hC dX8_readBraces_18 rfl ?_
      refine ax_getf (v := .int (nI ap)) hC q0 iX8 rfl 4 (by decide) (by decide +kernel) rfl rfl dX8_readBraces_19 ?_
      refine ax_iconst (v := 1) hC dX8_readBraces_22 (by decide) ?_
      refine ax_iadd hC dX8_readBraces_23 ?_
      refine ax_eqi (y := nI (ap + 1)) (nI_1 _) ?_
      refine ax_putf (v := .int (nI (ap + 1))) (ty := .int) hC tyX8 q0 iX8 tyX8_ok nmX8 rfl 4 (by decide) (by decide +kernel) rfl rfl (by decide +kernel) (rfl) rfl (Nat.le_of_ble_eq_true rfl) dX8_readBraces_24 (fun h5 e6 f7 => ?_)
      have e6 : h5 rd = some (.inr (10, [.ref (rd + 1), .ref (rd + 10), .ref tp, .int (nI ln), .int (nI (ap + 1))])) := e6
      have x8 : h5 (rd + 1) = some (.inr (9, [.int (nI b), .ref (rd + 2), .ref (rd + 3), .ref (rd + 4), .ref (rd + 5), .ref (rd + 6), .ref (rd + 7), .ref (rd + 8), .ref (rd + 9)])) := (f7 _ (by omega)).trans q1
      have x9 : h5 (rd + 2) = some (.inl (z 1, 60, .inl (pK (P6 G)))) := (f7 _ (by omega)).trans q2
      have x10 : h5 (rd + 3) = some (.inl (z 1, 60, .inl (pS (P6 G)))) := (f7 _ (by omega)).trans q3
      have x11 : h5 (rd + 4) = some (.inl (z 1, 60, .inl (pLt (P6 G)))) := (f7 _ (by omega)).trans q4
      have x12 : h5 (rd + 5) = some (.inl (z 1, 60, .inl (pLb (P6 G)))) := (f7 _ (by omega)).trans q5
      have x13 : h5 (rd + 6) = some (.inl (z 1, 60, .inl (pDp (P6 G)))) := (f7 _ (by omega)).trans q6
      have x14 : h5 (rd + 7) = some (.inl (z 1, 60, .inl (pIn (P6 G)))) := (f7 _ (by omega)).trans q7
      have x15 : h5 (rd + 8) = some (.inl (z 1, 360, .inl (pBr (P6 G)))) := (f7 _ (by omega)).trans q8
      have x16 : h5 (rd + 9) = some (.inl (z 1, 60, .inl (pSt (P6 G)))) := (f7 _ (by omega)).trans q9
      have x17 : h5 (rd + 10) = some (.inl (z 1, 60, .inl (Ar))) := (f7 _ (by omega)).trans q10
      have x18 : h5 tp = some (.inl (z 1, 200, .inl (tx))) := (f7 _ (by omega)).trans q11
      refine ax_iconst (v := 1) hC dX8_readBraces_27 (by decide) ?_
      refine ax_istore hC [(4, .int 1), (0, .ref rd), (1, .int (nI nd)), (2, .int (nI op)), (3, .int (nI d))] dX8_readBraces_28 (by decide) rfl ?_
      refine ax_iload hC 0 dX8_readBraces_30 rfl ?_
      refine ax_bipush (v := 6) hC dX8_readBraces_32 (by decide) ?_
      refine ax_icmp_gt (tgt := 158) hC dX8_readBraces_34 (by decide) (fun c19 => ?_) (fun c19 => ?_)
      · exact absurd c19 (by decide)
      · refine ax_aload_n hC 1 dX8_readBraces_37 rfl rfl ?_
        have hR20 : RdS z h5 rd tp ln (ap + 1) b (pK (P6 G), pS (P6 G), pLt (P6 G), pLb (P6 G), pDp (P6 G), pIn (P6 G), pBr (P6 G), pSt (P6 G)) Ar tx := ⟨e6, x8, x9, x10, x11, x12, x13, x14, x15, x16, x17, x18⟩
        refine ax_callVp (st := []) hC [] e6 rfl (c_X8_sign l D z B lo _ h5 rd tp ln (ap + 1) b ((pK (P6 G), pS (P6 G), pLt (P6 G), pLb (P6 G), pDp (P6 G), pIn (P6 G), pBr (P6 G), pSt (P6 G))) Ar tx hR20 htp (by omega) (by omega)) (cwV 0 hC.1.2.2.2.2 gX8_readBraces_X8_sign rfl rfl rfl (by decide +kernel) ⟨show 0 + 1 ≤ 12 + 3 * nv by omega, show 8 + (1 + 11) + (0) ≤ 500 + 200 * nv by omega⟩) rfl rfl (Nat.le_of_ble_eq_true rfl) dX8_readBraces_38 ⟨Nat.le_of_ble_eq_true rfl, Nat.le_of_ble_eq_true rfl⟩ (fun r21 er22 => ?_)
        subst er22
        refine ax_eqi (y := 97) a1 ?_
        refine ax_istore hC [(5, .int 97), (4, .int 1), (0, .ref rd), (1, .int (nI nd)), (2, .int (nI op)), (3, .int (nI d))] dX8_readBraces_41 (by decide) rfl ?_
        refine ax_iload hC 0 dX8_readBraces_43 rfl ?_
        refine ax_callSp (st := []) hC [.int 97] (c_X8_isLetter l D z B lo _ h5 97) (va_cwS 1 hC.1.2.2.2.2 gX8_readBraces_X8_isLetter rfl rfl rfl (by decide +kernel) ⟨show 0 + 1 ≤ 12 + 3 * nv by omega, show 8 + (1 + 11) + (0) ≤ 500 + 200 * nv by omega⟩) rfl rfl (Nat.le_of_ble_eq_true rfl) dX8_readBraces_45 ⟨Nat.le_of_ble_eq_true rfl, Nat.le_of_ble_eq_true rfl⟩ (fun r23 er24 => ?_)
        subst er24
        refine ax_eqi (y := 1) (by decide) ?_
        refine ax_if_eq (tgt := 70) hC dX8_readBraces_48 (by decide) (fun c25 => ?_) (fun c25 => ?_)
        · exact absurd c25 (by decide)
        · refine ax_aload_n hC 2 dX8_readBraces_51 rfl rfl ?_
          refine ax_getf (v := .ref (rd + 1)) hC e6 iX8 rfl 0 (by decide) (by decide +kernel) rfl rfl dX8_readBraces_52 ?_
          refine ax_iload_n hC 3 dX8_readBraces_55 rfl rfl ?_
          refine ax_callVp (st := []) hC [.int (nI nd)] x8 rfl (c_X7_labelsOf l D z B lo _ h5 (rd + 1) _ ((60, (pK (P6 G), pS (P6 G), pLt (P6 G), pLb (P6 G), pDp (P6 G), pIn (P6 G), pBr (P6 G), pSt (P6 G))) : PT) (nI nd) ⟨x8, x9, x10, x11, x12, x13, x14, x15, x16⟩ (Nat.le_refl 60)) (cwV 1 hC.1.2.2.2.2 gX8_readBraces_X7_labelsOf rfl rfl rfl (by decide +kernel) ⟨show 0 + 1 ≤ 12 + 3 * nv by omega, show 8 + (2 + 11) + (0) ≤ 500 + 200 * nv by omega⟩) rfl rfl (Nat.le_of_ble_eq_true rfl) dX8_readBraces_56 ⟨Nat.le_of_ble_eq_true rfl, Nat.le_of_ble_eq_true rfl⟩ (fun r26 er27 => ?_)
          subst er27
          refine ax_eqi (y := (pLb (P6 G)) nd) (rd_nat (n := 60) (j := nd) (by omega) (by decide)) ?_
          refine ax_eqi (y := 0) (hlb) ?_
          refine ax_iload hC 0 dX8_readBraces_59 rfl ?_
          refine ax_bipush (v := 97) hC dX8_readBraces_61 (by decide) ?_
          refine ax_isub hC dX8_readBraces_63 ?_
          refine ax_eqi (y := 0) (by decide) ?_
          refine ax_ishr hC dX8_readBraces_64 ?_
          refine ax_iconst (v := 1) hC dX8_readBraces_65 (by decide) ?_
          refine ax_iand hC dX8_readBraces_66 ?_
          refine ax_eqi (y := 0) (by decide) ?_
          refine ax_if_eq (tgt := 72) hC dX8_readBraces_67 (by decide) (fun c28 => ?_) (fun c28 => ?_)
          · refine ax_aload_n hC 2 dX8_readBraces_72 rfl rfl ?_
            refine ax_dup hC dX8_readBraces_73 rfl ?_
            refine ax_getf (v := .int (nI (ap + 1))) hC e6 iX8 rfl 4 (by decide) (by decide +kernel) rfl rfl dX8_readBraces_74 ?_
            refine ax_iconst (v := 1) hC dX8_readBraces_77 (by decide) ?_
            refine ax_iadd hC dX8_readBraces_78 ?_
            refine ax_eqi (y := nI (ap + 2)) (nI_1 _) ?_
            refine ax_putf (v := .int (nI (ap + 2))) (ty := .int) hC tyX8 e6 iX8 tyX8_ok nmX8 rfl 4 (by decide) (by decide +kernel) rfl rfl (by decide +kernel) (rfl) rfl (Nat.le_of_ble_eq_true rfl) dX8_readBraces_79 (fun h29 e30 f31 => ?_)
            have e30 : h29 rd = some (.inr (10, [.ref (rd + 1), .ref (rd + 10), .ref tp, .int (nI ln), .int (nI (ap + 2))])) := e30
            have x32 : h29 (rd + 1) = some (.inr (9, [.int (nI b), .ref (rd + 2), .ref (rd + 3), .ref (rd + 4), .ref (rd + 5), .ref (rd + 6), .ref (rd + 7), .ref (rd + 8), .ref (rd + 9)])) := (f31 _ (by omega)).trans x8
            have x33 : h29 (rd + 2) = some (.inl (z 1, 60, .inl (pK (P6 G)))) := (f31 _ (by omega)).trans x9
            have x34 : h29 (rd + 3) = some (.inl (z 1, 60, .inl (pS (P6 G)))) := (f31 _ (by omega)).trans x10
            have x35 : h29 (rd + 4) = some (.inl (z 1, 60, .inl (pLt (P6 G)))) := (f31 _ (by omega)).trans x11
            have x36 : h29 (rd + 5) = some (.inl (z 1, 60, .inl (pLb (P6 G)))) := (f31 _ (by omega)).trans x12
            have x37 : h29 (rd + 6) = some (.inl (z 1, 60, .inl (pDp (P6 G)))) := (f31 _ (by omega)).trans x13
            have x38 : h29 (rd + 7) = some (.inl (z 1, 60, .inl (pIn (P6 G)))) := (f31 _ (by omega)).trans x14
            have x39 : h29 (rd + 8) = some (.inl (z 1, 360, .inl (pBr (P6 G)))) := (f31 _ (by omega)).trans x15
            have x40 : h29 (rd + 9) = some (.inl (z 1, 60, .inl (pSt (P6 G)))) := (f31 _ (by omega)).trans x16
            have x41 : h29 (rd + 10) = some (.inl (z 1, 60, .inl (Ar))) := (f31 _ (by omega)).trans x17
            have x42 : h29 tp = some (.inl (z 1, 200, .inl (tx))) := (f31 _ (by omega)).trans x18
            refine ax_aload_n hC 2 dX8_readBraces_82 rfl rfl ?_
            refine ax_bipush (v := 58) hC dX8_readBraces_83 (by decide) ?_
            have hR43 : RdS z h29 rd tp ln (ap + 2) b (pK (P6 G), pS (P6 G), pLt (P6 G), pLb (P6 G), pDp (P6 G), pIn (P6 G), pBr (P6 G), pSt (P6 G)) Ar tx := ⟨e30, x32, x33, x34, x35, x36, x37, x38, x39, x40, x41, x42⟩
            refine ax_callVi (st := []) hC [.int 58] e30 rfl (c_X8_goesOn_y l D z B lo _ h29 rd tp ln (ap + 2) b ((pK (P6 G), pS (P6 G), pLt (P6 G), pLb (P6 G), pDp (P6 G), pIn (P6 G), pBr (P6 G), pSt (P6 G))) Ar tx hR43 htp 58 (by omega) (by omega) a2) (cwV 1 hC.1.2.2.2.2 gX8_readBraces_X8_goesOn rfl rfl rfl (by decide +kernel) ⟨show 1 + 1 ≤ 12 + 3 * nv by omega, show 8 + (2 + 11) + (20) ≤ 500 + 200 * nv by omega⟩) rfl rfl (Nat.le_of_ble_eq_true rfl) dX8_readBraces_85 ⟨Nat.le_of_ble_eq_true rfl, Nat.le_of_ble_eq_true rfl⟩ (fun r44 hi45 h46 hp47 => ?_)
            obtain ⟨er48, ei49, fr50, hR51⟩ := hp47
            replace ei49 := ei49.symm
            subst ei49
            subst er48
            obtain ⟨y52_0, y52_1, y52_2, y52_3, y52_4, y52_5, y52_6, y52_7, y52_8, y52_9, y52_10, y52_11⟩ := id hR51
            refine ax_if_ne (tgt := 93) hC dX8_readBraces_88 (by decide) (fun c53 => ?_) (fun c53 => ?_)
            · refine ax_aload_n hC 2 dX8_readBraces_93 rfl rfl ?_
              refine ax_iload_n hC 3 dX8_readBraces_94 rfl rfl ?_
              refine ax_iload_n hC 4 dX8_readBraces_95 rfl rfl ?_
              refine ax_iconst (v := 1) hC dX8_readBraces_96 (by decide) ?_
              refine ax_iadd hC dX8_readBraces_97 ?_
              refine ax_eqi (y := nI (op + 1)) (nI_1 op) ?_
              refine ax_iload_n hC 5 dX8_readBraces_98 rfl rfl ?_
              refine ax_callVi (st := []) hC [.int (nI nd), .int (nI (op + 1)), .int (nI d)] y52_0 rfl (hT w k T0 E d (op + 1) (nI nd) l D z B lo _ h46 rd tp ln (ap + 3) b ((pK (P6 G), pS (P6 G), pLt (P6 G), pLb (P6 G), pDp (P6 G), pIn (P6 G), pBr (P6 G), pSt (P6 G))) Ar tx hR51 htp hk0 hLp ht0 (by omega) (by omega) (by omega) (by omega)) (cwV 3 hC.1.2.2.2.2 gX8_readBraces_X8_readTalk rfl rfl rfl (by decide +kernel) ⟨show 10 + 3 * nv + 1 ≤ 12 + 3 * nv by omega, show 8 + (8 + 11) + (400 + 200 * nv) ≤ 500 + 200 * nv by omega⟩) rfl rfl (Nat.le_of_ble_eq_true rfl) dX8_readBraces_99 ⟨Nat.le_of_ble_eq_true rfl, Nat.le_of_ble_eq_true rfl⟩ (fun r54 hi55 h56 hp57 => ?_)
              obtain ⟨er58, ei59, fr60, G61, A62, hR63, he64, ha65, ht66⟩ := hp57
              replace ei59 := ei59.symm
              subst ei59
              subst er58
              obtain ⟨y67_0, y67_1, y67_2, y67_3, y67_4, y67_5, y67_6, y67_7, y67_8, y67_9, y67_10, y67_11⟩ := id hR63
              refine ax_istore hC [(6, .int (nI b)), (5, .int 97), (4, .int 1), (0, .ref rd), (1, .int (nI nd)), (2, .int (nI op)), (3, .int (nI d))] dX8_readBraces_102 (by decide) rfl ?_
              refine ax_iload hC 0 dX8_readBraces_104 rfl ?_
              refine ax_if_ge (tgt := 111) hC dX8_readBraces_106 (by decide) (fun c68 => ?_) (fun c68 => ?_)
              · refine ax_aload_n hC 3 dX8_readBraces_111 rfl rfl ?_
                refine ax_iload_n hC 4 dX8_readBraces_112 rfl rfl ?_
                refine ax_iload hC 1 dX8_readBraces_113 rfl ?_
                refine ax_bipush (v := 97) hC dX8_readBraces_115 (by decide) ?_
                refine ax_isub hC dX8_readBraces_117 ?_
                refine ax_eqi (y := 0) (by decide) ?_
                refine ax_iload hC 0 dX8_readBraces_118 rfl ?_
                have hl69 : pLb (P6 G61) nd = nI (2 ^ 0 - 1) := (he64.1 nd (by omega)).2.2.2.1.trans hlb
                refine ax_callVv (st := []) hC [.int (nI nd), .int 0, .int (nI b)] y67_0 rfl (c_X8_addBranch l D z B lo _ h56 rd tp ln (ap + 3 + (txt nv w k T0).length) (b + siz nv w T0) G61 A62 tx nd 0 b hR63 htp (by omega) (by decide) hl69) (cwV 3 hC.1.2.2.2.2 gX8_readBraces_X8_addBranch rfl rfl rfl (by decide +kernel) ⟨show 1 + 1 ≤ 12 + 3 * nv by omega, show 8 + (9 + 11) + (40) ≤ 500 + 200 * nv by omega⟩) rfl rfl (Nat.le_of_ble_eq_true rfl) dX8_readBraces_120 ⟨Nat.le_of_ble_eq_true rfl, Nat.le_of_ble_eq_true rfl⟩ (fun hi70 h71 hp72 => ?_)
                obtain ⟨ei73, fr74, hR75⟩ := hp72
                replace ei73 := ei73.symm
                subst ei73
                obtain ⟨y76_0, y76_1, y76_2, y76_3, y76_4, y76_5, y76_6, y76_7, y76_8, y76_9, y76_10, y76_11⟩ := id hR75
                refine ax_aload_n hC 3 dX8_readBraces_123 rfl rfl ?_
                refine ax_bipush (v := 125) hC dX8_readBraces_124 (by decide) ?_
                refine ax_callVp (st := []) hC [.int 125] y76_0 rfl (c_X8_goesOn_n l D z B lo _ h71 rd tp ln (ap + 3 + (txt nv w k T0).length) (b + siz nv w T0) (addB G61 nd 0 b) A62 tx hR75 htp 125 (by omega) (by omega) (by rw [a3]; decide)) (cwV 1 hC.1.2.2.2.2 gX8_readBraces_X8_goesOn rfl rfl rfl (by decide +kernel) ⟨show 1 + 1 ≤ 12 + 3 * nv by omega, show 8 + (2 + 11) + (20) ≤ 500 + 200 * nv by omega⟩) rfl rfl (Nat.le_of_ble_eq_true rfl) dX8_readBraces_126 ⟨Nat.le_of_ble_eq_true rfl, Nat.le_of_ble_eq_true rfl⟩ (fun r77 er78 => ?_)
                subst er78
                refine ax_if_eq (tgt := 134) hC dX8_readBraces_129 (by decide) (fun c79 => ?_) (fun c79 => ?_)
                · refine ax_iload hC 2 dX8_readBraces_134 rfl ?_
                  refine ax_bipush (v := 6) hC dX8_readBraces_136 (by decide) ?_
                  refine ax_icmp_eq (tgt := 150) hC dX8_readBraces_138 (by decide) (fun c80 => ?_) (fun c80 => ?_)
                  · exact absurd c80 (by decide)
                  · refine ax_aload_n hC 3 dX8_readBraces_141 rfl rfl ?_
                    refine ax_bipush (v := 44) hC dX8_readBraces_142 (by decide) ?_
                    refine ax_callVi (st := []) hC [.int 44] y76_0 rfl (c_X8_goesOn_y l D z B lo _ h71 rd tp ln (ap + 3 + (txt nv w k T0).length) (b + siz nv w T0) (addB G61 nd 0 b) A62 tx hR75 htp 44 (by omega) (by omega) a3) (cwV 1 hC.1.2.2.2.2 gX8_readBraces_X8_goesOn rfl rfl rfl (by decide +kernel) ⟨show 1 + 1 ≤ 12 + 3 * nv by omega, show 8 + (2 + 11) + (20) ≤ 500 + 200 * nv by omega⟩) rfl rfl (Nat.le_of_ble_eq_true rfl) dX8_readBraces_144 ⟨Nat.le_of_ble_eq_true rfl, Nat.le_of_ble_eq_true rfl⟩ (fun r81 hi82 h83 hp84 => ?_)
                    obtain ⟨er85, ei86, fr87, hR88⟩ := hp84
                    replace ei86 := ei86.symm
                    subst ei86
                    subst er85
                    obtain ⟨y89_0, y89_1, y89_2, y89_3, y89_4, y89_5, y89_6, y89_7, y89_8, y89_9, y89_10, y89_11⟩ := id hR88
                    refine ax_if_ne (tgt := 152) hC dX8_readBraces_147 (by decide) (fun c90 => ?_) (fun c90 => ?_)
                    · refine ax_iinc (v := 2) hC 2 [(4, .int 2), (6, .int (nI b)), (5, .int 97), (0, .ref rd), (1, .int (nI nd)), (2, .int (nI op)), (3, .int (nI d))] dX8_readBraces_152 rfl (by decide) (by decide) rfl ?_
                      refine ax_goto (tgt := 30) hC dX8_readBraces_155 (by decide) ?_
                      refine ax_iload hC 0 dX8_readBraces_30 rfl ?_
                      refine ax_bipush (v := 6) hC dX8_readBraces_32 (by decide) ?_
                      refine ax_icmp_gt (tgt := 158) hC dX8_readBraces_34 (by decide) (fun c92 => ?_) (fun c92 => ?_)
                      · exact absurd c92 (by decide)
                      · refine ax_aload_n hC 3 dX8_readBraces_37 rfl rfl ?_
                        refine ax_callVp (st := []) hC [] y89_0 rfl (c_X8_sign l D z B lo _ h83 rd tp ln (ap + 3 + (txt nv w k T0).length + 1) (b + siz nv w T0) (addB G61 nd 0 b) A62 tx hR88 htp (by omega) (by omega)) (cwV 0 hC.1.2.2.2.2 gX8_readBraces_X8_sign rfl rfl rfl (by decide +kernel) ⟨show 0 + 1 ≤ 12 + 3 * nv by omega, show 8 + (1 + 11) + (0) ≤ 500 + 200 * nv by omega⟩) rfl rfl (Nat.le_of_ble_eq_true rfl) dX8_readBraces_38 ⟨Nat.le_of_ble_eq_true rfl, Nat.le_of_ble_eq_true rfl⟩ (fun r93 er94 => ?_)
                        subst er94
                        refine ax_eqi (y := 98) a4 ?_
                        refine ax_istore hC [(5, .int 98), (4, .int 2), (6, .int (nI b)), (0, .ref rd), (1, .int (nI nd)), (2, .int (nI op)), (3, .int (nI d))] dX8_readBraces_41 (by decide) rfl ?_
                        refine ax_iload hC 0 dX8_readBraces_43 rfl ?_
                        refine ax_callSp (st := []) hC [.int 98] (c_X8_isLetter l D z B lo _ h83 98) (va_cwS 1 hC.1.2.2.2.2 gX8_readBraces_X8_isLetter rfl rfl rfl (by decide +kernel) ⟨show 0 + 1 ≤ 12 + 3 * nv by omega, show 8 + (1 + 11) + (0) ≤ 500 + 200 * nv by omega⟩) rfl rfl (Nat.le_of_ble_eq_true rfl) dX8_readBraces_45 ⟨Nat.le_of_ble_eq_true rfl, Nat.le_of_ble_eq_true rfl⟩ (fun r95 er96 => ?_)
                        subst er96
                        refine ax_eqi (y := 1) (by decide) ?_
                        refine ax_if_eq (tgt := 70) hC dX8_readBraces_48 (by decide) (fun c97 => ?_) (fun c97 => ?_)
                        · exact absurd c97 (by decide)
                        · refine ax_aload_n hC 3 dX8_readBraces_51 rfl rfl ?_
                          refine ax_getf (v := .ref (rd + 1)) hC y89_0 iX8 rfl 0 (by decide) (by decide +kernel) rfl rfl dX8_readBraces_52 ?_
                          refine ax_iload_n hC 4 dX8_readBraces_55 rfl rfl ?_
                          refine ax_callVp (st := []) hC [.int (nI nd)] y89_1 rfl (c_X7_labelsOf l D z B lo _ h83 (rd + 1) _ ((60, (pK (P6 (addB G61 nd 0 b)), pS (P6 (addB G61 nd 0 b)), pLt (P6 (addB G61 nd 0 b)), pLb (P6 (addB G61 nd 0 b)), pDp (P6 (addB G61 nd 0 b)), pIn (P6 (addB G61 nd 0 b)), pBr (P6 (addB G61 nd 0 b)), pSt (P6 (addB G61 nd 0 b)))) : PT) (nI nd) ⟨y89_1, y89_2, y89_3, y89_4, y89_5, y89_6, y89_7, y89_8, y89_9⟩ (Nat.le_refl 60)) (cwV 1 hC.1.2.2.2.2 gX8_readBraces_X7_labelsOf rfl rfl rfl (by decide +kernel) ⟨show 0 + 1 ≤ 12 + 3 * nv by omega, show 8 + (2 + 11) + (0) ≤ 500 + 200 * nv by omega⟩) rfl rfl (Nat.le_of_ble_eq_true rfl) dX8_readBraces_56 ⟨Nat.le_of_ble_eq_true rfl, Nat.le_of_ble_eq_true rfl⟩ (fun r98 er99 => ?_)
                          subst er99
                          refine ax_eqi (y := (pLb (P6 (addB G61 nd 0 b))) nd) (rd_nat (n := 60) (j := nd) (by omega) (by decide)) ?_
                          refine ax_eqi (y := 1) (upd_self _ _ _) ?_
                          refine ax_iload hC 0 dX8_readBraces_59 rfl ?_
                          refine ax_bipush (v := 97) hC dX8_readBraces_61 (by decide) ?_
                          refine ax_isub hC dX8_readBraces_63 ?_
                          refine ax_eqi (y := 1) (by decide) ?_
                          refine ax_ishr hC dX8_readBraces_64 ?_
                          refine ax_iconst (v := 1) hC dX8_readBraces_65 (by decide) ?_
                          refine ax_iand hC dX8_readBraces_66 ?_
                          refine ax_eqi (y := 0) (by decide) ?_
                          refine ax_if_eq (tgt := 72) hC dX8_readBraces_67 (by decide) (fun c100 => ?_) (fun c100 => ?_)
                          · refine ax_aload_n hC 3 dX8_readBraces_72 rfl rfl ?_
                            refine ax_dup hC dX8_readBraces_73 rfl ?_
                            refine ax_getf (v := .int (nI (ap + 3 + (txt nv w k T0).length + 1))) hC y89_0 iX8 rfl 4 (by decide) (by decide +kernel) rfl rfl dX8_readBraces_74 ?_
                            refine ax_iconst (v := 1) hC dX8_readBraces_77 (by decide) ?_
                            refine ax_iadd hC dX8_readBraces_78 ?_
                            refine ax_eqi (y := nI (ap + 3 + (txt nv w k T0).length + 2)) (nI_1 _) ?_
                            refine ax_putf (v := .int (nI (ap + 3 + (txt nv w k T0).length + 2))) (ty := .int) hC tyX8 y89_0 iX8 tyX8_ok nmX8 rfl 4 (by decide) (by decide +kernel) rfl rfl (by decide +kernel) (rfl) rfl (Nat.le_of_ble_eq_true rfl) dX8_readBraces_79 (fun h101 e102 f103 => ?_)
                            have e102 : h101 rd = some (.inr (10, [.ref (rd + 1), .ref (rd + 10), .ref tp, .int (nI ln), .int (nI (ap + 3 + (txt nv w k T0).length + 2))])) := e102
                            have x104 : h101 (rd + 1) = some (.inr (9, [.int (nI (b + siz nv w T0)), .ref (rd + 2), .ref (rd + 3), .ref (rd + 4), .ref (rd + 5), .ref (rd + 6), .ref (rd + 7), .ref (rd + 8), .ref (rd + 9)])) := (f103 _ (by omega)).trans y89_1
                            have x105 : h101 (rd + 2) = some (.inl (z 1, 60, .inl (pK (P6 (addB G61 nd 0 b))))) := (f103 _ (by omega)).trans y89_2
                            have x106 : h101 (rd + 3) = some (.inl (z 1, 60, .inl (pS (P6 (addB G61 nd 0 b))))) := (f103 _ (by omega)).trans y89_3
                            have x107 : h101 (rd + 4) = some (.inl (z 1, 60, .inl (pLt (P6 (addB G61 nd 0 b))))) := (f103 _ (by omega)).trans y89_4
                            have x108 : h101 (rd + 5) = some (.inl (z 1, 60, .inl (pLb (P6 (addB G61 nd 0 b))))) := (f103 _ (by omega)).trans y89_5
                            have x109 : h101 (rd + 6) = some (.inl (z 1, 60, .inl (pDp (P6 (addB G61 nd 0 b))))) := (f103 _ (by omega)).trans y89_6
                            have x110 : h101 (rd + 7) = some (.inl (z 1, 60, .inl (pIn (P6 (addB G61 nd 0 b))))) := (f103 _ (by omega)).trans y89_7
                            have x111 : h101 (rd + 8) = some (.inl (z 1, 360, .inl (pBr (P6 (addB G61 nd 0 b))))) := (f103 _ (by omega)).trans y89_8
                            have x112 : h101 (rd + 9) = some (.inl (z 1, 60, .inl (pSt (P6 (addB G61 nd 0 b))))) := (f103 _ (by omega)).trans y89_9
                            have x113 : h101 (rd + 10) = some (.inl (z 1, 60, .inl (A62))) := (f103 _ (by omega)).trans y89_10
                            have x114 : h101 tp = some (.inl (z 1, 200, .inl (tx))) := (f103 _ (by omega)).trans y89_11
                            refine ax_aload_n hC 3 dX8_readBraces_82 rfl rfl ?_
                            refine ax_bipush (v := 58) hC dX8_readBraces_83 (by decide) ?_
                            have hR115 : RdS z h101 rd tp ln (ap + 3 + (txt nv w k T0).length + 2) (b + siz nv w T0) (pK (P6 (addB G61 nd 0 b)), pS (P6 (addB G61 nd 0 b)), pLt (P6 (addB G61 nd 0 b)), pLb (P6 (addB G61 nd 0 b)), pDp (P6 (addB G61 nd 0 b)), pIn (P6 (addB G61 nd 0 b)), pBr (P6 (addB G61 nd 0 b)), pSt (P6 (addB G61 nd 0 b))) A62 tx := ⟨e102, x104, x105, x106, x107, x108, x109, x110, x111, x112, x113, x114⟩
                            refine ax_callVi (st := []) hC [.int 58] e102 rfl (c_X8_goesOn_y l D z B lo _ h101 rd tp ln (ap + 3 + (txt nv w k T0).length + 2) (b + siz nv w T0) ((pK (P6 (addB G61 nd 0 b)), pS (P6 (addB G61 nd 0 b)), pLt (P6 (addB G61 nd 0 b)), pLb (P6 (addB G61 nd 0 b)), pDp (P6 (addB G61 nd 0 b)), pIn (P6 (addB G61 nd 0 b)), pBr (P6 (addB G61 nd 0 b)), pSt (P6 (addB G61 nd 0 b)))) A62 tx hR115 htp 58 (by omega) (by omega) a5) (cwV 1 hC.1.2.2.2.2 gX8_readBraces_X8_goesOn rfl rfl rfl (by decide +kernel) ⟨show 1 + 1 ≤ 12 + 3 * nv by omega, show 8 + (2 + 11) + (20) ≤ 500 + 200 * nv by omega⟩) rfl rfl (Nat.le_of_ble_eq_true rfl) dX8_readBraces_85 ⟨Nat.le_of_ble_eq_true rfl, Nat.le_of_ble_eq_true rfl⟩ (fun r116 hi117 h118 hp119 => ?_)
                            obtain ⟨er120, ei121, fr122, hR123⟩ := hp119
                            replace ei121 := ei121.symm
                            subst ei121
                            subst er120
                            obtain ⟨y124_0, y124_1, y124_2, y124_3, y124_4, y124_5, y124_6, y124_7, y124_8, y124_9, y124_10, y124_11⟩ := id hR123
                            refine ax_if_ne (tgt := 93) hC dX8_readBraces_88 (by decide) (fun c125 => ?_) (fun c125 => ?_)
                            · refine ax_aload_n hC 3 dX8_readBraces_93 rfl rfl ?_
                              refine ax_iload_n hC 4 dX8_readBraces_94 rfl rfl ?_
                              refine ax_iload_n hC 5 dX8_readBraces_95 rfl rfl ?_
                              refine ax_iconst (v := 1) hC dX8_readBraces_96 (by decide) ?_
                              refine ax_iadd hC dX8_readBraces_97 ?_
                              refine ax_eqi (y := nI (op + 1)) (nI_1 op) ?_
                              refine ax_iload_n hC 6 dX8_readBraces_98 rfl rfl ?_
                              have hLp126 : LpsOK ((pK (P6 (addB G61 nd 0 b)), pS (P6 (addB G61 nd 0 b)), pLt (P6 (addB G61 nd 0 b)), pLb (P6 (addB G61 nd 0 b)), pDp (P6 (addB G61 nd 0 b)), pIn (P6 (addB G61 nd 0 b)), pBr (P6 (addB G61 nd 0 b)), pSt (P6 (addB G61 nd 0 b)))) A62 (b + siz nv w T0) k E (nI nd) := hLp.mono2 (fun i hi9 => ⟨(he64.1 i (by omega)).1, (he64.1 i (by omega)).2.2.1, ha65 i (by omega)⟩) (by omega)
                              refine ax_callVi (st := []) hC [.int (nI nd), .int (nI (op + 1)), .int (nI d)] y124_0 rfl (hT w k T1 E d (op + 1) (nI nd) l D z B lo _ h118 rd tp ln (ap + 3 + (txt nv w k T0).length + 3) (b + siz nv w T0) ((pK (P6 (addB G61 nd 0 b)), pS (P6 (addB G61 nd 0 b)), pLt (P6 (addB G61 nd 0 b)), pLb (P6 (addB G61 nd 0 b)), pDp (P6 (addB G61 nd 0 b)), pIn (P6 (addB G61 nd 0 b)), pBr (P6 (addB G61 nd 0 b)), pSt (P6 (addB G61 nd 0 b)))) A62 tx hR123 htp hk1 hLp126 ht1 (by omega) (by omega) (by omega) (by omega)) (cwV 3 hC.1.2.2.2.2 gX8_readBraces_X8_readTalk rfl rfl rfl (by decide +kernel) ⟨show 10 + 3 * nv + 1 ≤ 12 + 3 * nv by omega, show 8 + (8 + 11) + (400 + 200 * nv) ≤ 500 + 200 * nv by omega⟩) rfl rfl (Nat.le_of_ble_eq_true rfl) dX8_readBraces_99 ⟨Nat.le_of_ble_eq_true rfl, Nat.le_of_ble_eq_true rfl⟩ (fun r127 hi128 h129 hp130 => ?_)
                              obtain ⟨er131, ei132, fr133, G134, A135, hR136, he137, ha138, ht139⟩ := hp130
                              replace ei132 := ei132.symm
                              subst ei132
                              subst er131
                              obtain ⟨y140_0, y140_1, y140_2, y140_3, y140_4, y140_5, y140_6, y140_7, y140_8, y140_9, y140_10, y140_11⟩ := id hR136
                              refine ax_istore hC [(6, .int (nI (b + siz nv w T0))), (5, .int 98), (4, .int 2), (0, .ref rd), (1, .int (nI nd)), (2, .int (nI op)), (3, .int (nI d))] dX8_readBraces_102 (by decide) rfl ?_
                              refine ax_iload hC 0 dX8_readBraces_104 rfl ?_
                              refine ax_if_ge (tgt := 111) hC dX8_readBraces_106 (by decide) (fun c141 => ?_) (fun c141 => ?_)
                              · refine ax_aload_n hC 3 dX8_readBraces_111 rfl rfl ?_
                                refine ax_iload_n hC 4 dX8_readBraces_112 rfl rfl ?_
                                refine ax_iload hC 1 dX8_readBraces_113 rfl ?_
                                refine ax_bipush (v := 97) hC dX8_readBraces_115 (by decide) ?_
                                refine ax_isub hC dX8_readBraces_117 ?_
                                refine ax_eqi (y := 1) (by decide) ?_
                                refine ax_iload hC 0 dX8_readBraces_118 rfl ?_
                                have hl142 : pLb (P6 G134) nd = nI (2 ^ 1 - 1) := (he137.1 nd (by omega)).2.2.2.1.trans (upd_self _ _ _)
                                refine ax_callVv (st := []) hC [.int (nI nd), .int 1, .int (nI (b + siz nv w T0))] y140_0 rfl (c_X8_addBranch l D z B lo _ h129 rd tp ln (ap + 3 + (txt nv w k T0).length + 3 + (txt nv w k T1).length) (b + siz nv w T0 + siz nv w T1) G134 A135 tx nd 1 (b + siz nv w T0) hR136 htp (by omega) (by decide) hl142) (cwV 3 hC.1.2.2.2.2 gX8_readBraces_X8_addBranch rfl rfl rfl (by decide +kernel) ⟨show 1 + 1 ≤ 12 + 3 * nv by omega, show 8 + (9 + 11) + (40) ≤ 500 + 200 * nv by omega⟩) rfl rfl (Nat.le_of_ble_eq_true rfl) dX8_readBraces_120 ⟨Nat.le_of_ble_eq_true rfl, Nat.le_of_ble_eq_true rfl⟩ (fun hi143 h144 hp145 => ?_)
                                obtain ⟨ei146, fr147, hR148⟩ := hp145
                                replace ei146 := ei146.symm
                                subst ei146
                                obtain ⟨y149_0, y149_1, y149_2, y149_3, y149_4, y149_5, y149_6, y149_7, y149_8, y149_9, y149_10, y149_11⟩ := id hR148
                                refine ax_aload_n hC 3 dX8_readBraces_123 rfl rfl ?_
                                refine ax_bipush (v := 125) hC dX8_readBraces_124 (by decide) ?_
                                refine ax_callVi (st := []) hC [.int 125] y149_0 rfl (c_X8_goesOn_y l D z B lo _ h144 rd tp ln (ap + 3 + (txt nv w k T0).length + 3 + (txt nv w k T1).length) (b + siz nv w T0 + siz nv w T1) ((addB G134 nd 1 (b + siz nv w T0))) A135 tx hR148 htp 125 (by omega) (by omega) a6) (cwV 1 hC.1.2.2.2.2 gX8_readBraces_X8_goesOn rfl rfl rfl (by decide +kernel) ⟨show 1 + 1 ≤ 12 + 3 * nv by omega, show 8 + (2 + 11) + (20) ≤ 500 + 200 * nv by omega⟩) rfl rfl (Nat.le_of_ble_eq_true rfl) dX8_readBraces_126 ⟨Nat.le_of_ble_eq_true rfl, Nat.le_of_ble_eq_true rfl⟩ (fun r150 hi151 h152 hp153 => ?_)
                                obtain ⟨er154, ei155, fr156, hR157⟩ := hp153
                                replace ei155 := ei155.symm
                                subst ei155
                                subst er154
                                obtain ⟨y158_0, y158_1, y158_2, y158_3, y158_4, y158_5, y158_6, y158_7, y158_8, y158_9, y158_10, y158_11⟩ := id hR157
                                refine ax_if_eq (tgt := 134) hC dX8_readBraces_129 (by decide) (fun c159 => ?_) (fun c159 => ?_)
                                · exact absurd c159 (by decide)
                                · refine ax_iconst (v := 1) hC dX8_readBraces_132 (by decide) ?_
                                  refine ax_zret hC hr hlocks dX8_readBraces_133 (by decide) ?_
                                  exact ⟨rfl, rfl, fun q hq => ((fr156 q (by omega)).trans ((fr147 q (by omega)).trans ((fr133 q (by omega)).trans ((fr122 q (by omega)).trans ((f103 q (by omega)).trans ((fr87 q (by omega)).trans ((fr74 q (by omega)).trans ((fr60 q (by omega)).trans ((fr50 q (by omega)).trans ((f31 q (by omega)).trans (f7 q (by omega)))))))))))), _, _, hR157, brc2 hnd he64 ha65 ht66 he137 ha138 ht139⟩
                              · exact absurd (nI_pos' (by omega)) c141
                            · exact absurd c125 (by decide)
                          · exact absurd c100 (by decide)
                    · exact absurd c90 (by decide)
                · exact absurd c79 (by decide)
              · exact absurd (nI_pos' (by omega)) c68
            · exact absurd c53 (by decide)
          · exact absurd c28 (by decide)
    · exact absurd (nI_lt (a := op) (b := 8) (by omega) (by decide)) c4

set_option maxRecDepth 100000 in
set_option maxHeartbeats 4000000 in
theorem c_X8_readBraces_3 (l : Launch) (D : va_G) (z : Nat → ClassId) (B : Heap) (lo hi : Nat) (h : Nat → Option va_E) (rd tp ln ap b : Nat) (G : RT) (Ar tx : Nat → Int32) (nd d op nv k : Nat) (w : Bool) (T0 T1 : Tre) (E : Nat → Nat) (hR : RdS z h rd tp ln ap b G Ar tx) (htp : tp < rd) (hT : TalkC nv) (hnd : nd < b) (hb : b + siz nv w T0 + siz nv w T1 + 1 ≤ 60) (hop : op + 1 + nv ≤ 8) (hlb : pLb (P6 G) nd = 0) (hLp : LpsOK G Ar b k E (nI nd)) (hk0 : okT nv k T0) (hk1 : okT nv k T1) (a0 : tx ap = 123) (a1 : tx (ap + 1) = 97) (a2 : tx (ap + 2) = 58) (ht0 : TxA tx (ap + 3) (txt nv w k T0)) (a3 : tx (ap + 3 + (txt nv w k T0).length) = 44) (a4 : tx (ap + 3 + (txt nv w k T0).length + 1) = 98) (a5 : tx (ap + 3 + (txt nv w k T0).length + 2) = 58) (ht1 : TxA tx (ap + 3 + (txt nv w k T0).length + 3) (txt nv w k T1)) (a6 : tx (ap + 3 + (txt nv w k T0).length + 3 + (txt nv w k T1).length) = 44) (a7 : tx (ap + 3 + (txt nv w k T0).length + 3 + (txt nv w k T1).length + 1) = 99) (a8 : tx (ap + 3 + (txt nv w k T0).length + 3 + (txt nv w k T1).length + 2) = 58) (a9 : tx (ap + 3 + (txt nv w k T0).length + 3 + (txt nv w k T1).length + 3) = 48) (a10 : tx (ap + 3 + (txt nv w k T0).length + 3 + (txt nv w k T1).length + 4) = 125) (hat : ap + 3 + (txt nv w k T0).length + 3 + (txt nv w k T1).length + 5 ≤ ln) (hln : ln ≤ 200) : Met l yX8_readBraces wsX8_readBraces (rmSb nv) (KP D vwCl B lo hi h (ty6 z) [.ref rd, .int (nI nd), .int (nI op), .int (nI d)]) (KQi D vwCl B lo (ty6 z) (fun r hi' h' => r = 1 ∧ hi' = hi ∧ (∀ q, (q < rd ∨ rd + 11 ≤ q) → h' q = h q) ∧ ∃ G' Ar', RdS z h' rd tp ln (ap + 3 + (txt nv w k T0).length + 3 + (txt nv w k T1).length + 5) (b + siz nv w T0 + siz nv w T1 + 1) G' Ar' tx ∧ BrcR true nv w k T0 T1 d nd b E G Ar G' Ar')) 0 0 (fun q => lo ≤ q) := by
  obtain ⟨q0, q1, q2, q3, q4, q5, q6, q7, q8, q9, q10, q11⟩ := id hR
  refine ax_met (by decide) rfl (Nat.le_of_ble_eq_true rfl) (L0 := [(0, .ref rd), (1, .int (nI nd)), (2, .int (nI op)), (3, .int (nI d))]) rfl ?_
  intro p e s m args below meth c hC hr hlocks hnm hargs
  have iX8 : ∀ w ∈ u_ws RX8 TX8 5, w ∈ wsX8_readBraces := by decide +kernel
  have hl0 := txt_pos nv w k T0
  have hs0 := siz_pos nv w T0
  have hl1 := txt_pos nv w k T1
  have hs1 := siz_pos nv w T1
  have okE : okT nv k tEnd := tEnd_ok hk0
  refine ax_aload_n hC 0 dX8_readBraces_0 rfl rfl ?_
  refine ax_callVp (st := []) hC [] q0 rfl (c_X8_sign l D z B lo _ h rd tp ln ap b G Ar tx hR htp (by omega) (by omega)) (cwV 0 hC.1.2.2.2.2 gX8_readBraces_X8_sign rfl rfl rfl (by decide +kernel) ⟨show 0 + 1 ≤ 12 + 3 * nv by omega, show 8 + (1 + 11) + (0) ≤ 500 + 200 * nv by omega⟩) rfl rfl (Nat.le_of_ble_eq_true rfl) dX8_readBraces_1 ⟨Nat.le_of_ble_eq_true rfl, Nat.le_of_ble_eq_true rfl⟩ (fun r1 er2 => ?_)
  subst er2
  refine ax_eqi (y := 123) a0 ?_
  refine ax_bipush (v := 123) hC dX8_readBraces_4 (by decide) ?_
  refine ax_icmp_ne (tgt := 15) hC dX8_readBraces_6 (by decide) (fun c3 => ?_) (fun c3 => ?_)
  · exact absurd c3 (by decide)
  · refine ax_iload_n hC 2 dX8_readBraces_9 rfl rfl ?_
    refine ax_bipush (v := 8) hC dX8_readBraces_10 (by decide) ?_
    refine ax_icmp_lt (tgt := 17) hC dX8_readBraces_12 (by decide) (fun c4 => ?_) (fun c4 => ?_)
    · refine ax_aload_n hC 0 dX8_readBraces_17 rfl rfl ?_
      refine ax_dup hC dX8_readBraces_18 rfl ?_
      refine ax_getf (v := .int (nI ap)) hC q0 iX8 rfl 4 (by decide) (by decide +kernel) rfl rfl dX8_readBraces_19 ?_
      refine ax_iconst (v := 1) hC dX8_readBraces_22 (by decide) ?_
      refine ax_iadd hC dX8_readBraces_23 ?_
      refine ax_eqi (y := nI (ap + 1)) (nI_1 _) ?_
      refine ax_putf (v := .int (nI (ap + 1))) (ty := .int) hC tyX8 q0 iX8 tyX8_ok nmX8 rfl 4 (by decide) (by decide +kernel) rfl rfl (by decide +kernel) (rfl) rfl (Nat.le_of_ble_eq_true rfl) dX8_readBraces_24 (fun h5 e6 f7 => ?_)
      have e6 : h5 rd = some (.inr (10, [.ref (rd + 1), .ref (rd + 10), .ref tp, .int (nI ln), .int (nI (ap + 1))])) := e6
      have x8 : h5 (rd + 1) = some (.inr (9, [.int (nI b), .ref (rd + 2), .ref (rd + 3), .ref (rd + 4), .ref (rd + 5), .ref (rd + 6), .ref (rd + 7), .ref (rd + 8), .ref (rd + 9)])) := (f7 _ (by omega)).trans q1
      have x9 : h5 (rd + 2) = some (.inl (z 1, 60, .inl (pK (P6 G)))) := (f7 _ (by omega)).trans q2
      have x10 : h5 (rd + 3) = some (.inl (z 1, 60, .inl (pS (P6 G)))) := (f7 _ (by omega)).trans q3
      have x11 : h5 (rd + 4) = some (.inl (z 1, 60, .inl (pLt (P6 G)))) := (f7 _ (by omega)).trans q4
      have x12 : h5 (rd + 5) = some (.inl (z 1, 60, .inl (pLb (P6 G)))) := (f7 _ (by omega)).trans q5
      have x13 : h5 (rd + 6) = some (.inl (z 1, 60, .inl (pDp (P6 G)))) := (f7 _ (by omega)).trans q6
      have x14 : h5 (rd + 7) = some (.inl (z 1, 60, .inl (pIn (P6 G)))) := (f7 _ (by omega)).trans q7
      have x15 : h5 (rd + 8) = some (.inl (z 1, 360, .inl (pBr (P6 G)))) := (f7 _ (by omega)).trans q8
      have x16 : h5 (rd + 9) = some (.inl (z 1, 60, .inl (pSt (P6 G)))) := (f7 _ (by omega)).trans q9
      have x17 : h5 (rd + 10) = some (.inl (z 1, 60, .inl (Ar))) := (f7 _ (by omega)).trans q10
      have x18 : h5 tp = some (.inl (z 1, 200, .inl (tx))) := (f7 _ (by omega)).trans q11
      refine ax_iconst (v := 1) hC dX8_readBraces_27 (by decide) ?_
      refine ax_istore hC [(4, .int 1), (0, .ref rd), (1, .int (nI nd)), (2, .int (nI op)), (3, .int (nI d))] dX8_readBraces_28 (by decide) rfl ?_
      refine ax_iload hC 0 dX8_readBraces_30 rfl ?_
      refine ax_bipush (v := 6) hC dX8_readBraces_32 (by decide) ?_
      refine ax_icmp_gt (tgt := 158) hC dX8_readBraces_34 (by decide) (fun c19 => ?_) (fun c19 => ?_)
      · exact absurd c19 (by decide)
      · refine ax_aload_n hC 1 dX8_readBraces_37 rfl rfl ?_
        have hR20 : RdS z h5 rd tp ln (ap + 1) b (pK (P6 G), pS (P6 G), pLt (P6 G), pLb (P6 G), pDp (P6 G), pIn (P6 G), pBr (P6 G), pSt (P6 G)) Ar tx := ⟨e6, x8, x9, x10, x11, x12, x13, x14, x15, x16, x17, x18⟩
        refine ax_callVp (st := []) hC [] e6 rfl (c_X8_sign l D z B lo _ h5 rd tp ln (ap + 1) b ((pK (P6 G), pS (P6 G), pLt (P6 G), pLb (P6 G), pDp (P6 G), pIn (P6 G), pBr (P6 G), pSt (P6 G))) Ar tx hR20 htp (by omega) (by omega)) (cwV 0 hC.1.2.2.2.2 gX8_readBraces_X8_sign rfl rfl rfl (by decide +kernel) ⟨show 0 + 1 ≤ 12 + 3 * nv by omega, show 8 + (1 + 11) + (0) ≤ 500 + 200 * nv by omega⟩) rfl rfl (Nat.le_of_ble_eq_true rfl) dX8_readBraces_38 ⟨Nat.le_of_ble_eq_true rfl, Nat.le_of_ble_eq_true rfl⟩ (fun r21 er22 => ?_)
        subst er22
        refine ax_eqi (y := 97) a1 ?_
        refine ax_istore hC [(5, .int 97), (4, .int 1), (0, .ref rd), (1, .int (nI nd)), (2, .int (nI op)), (3, .int (nI d))] dX8_readBraces_41 (by decide) rfl ?_
        refine ax_iload hC 0 dX8_readBraces_43 rfl ?_
        refine ax_callSp (st := []) hC [.int 97] (c_X8_isLetter l D z B lo _ h5 97) (va_cwS 1 hC.1.2.2.2.2 gX8_readBraces_X8_isLetter rfl rfl rfl (by decide +kernel) ⟨show 0 + 1 ≤ 12 + 3 * nv by omega, show 8 + (1 + 11) + (0) ≤ 500 + 200 * nv by omega⟩) rfl rfl (Nat.le_of_ble_eq_true rfl) dX8_readBraces_45 ⟨Nat.le_of_ble_eq_true rfl, Nat.le_of_ble_eq_true rfl⟩ (fun r23 er24 => ?_)
        subst er24
        refine ax_eqi (y := 1) (by decide) ?_
        refine ax_if_eq (tgt := 70) hC dX8_readBraces_48 (by decide) (fun c25 => ?_) (fun c25 => ?_)
        · exact absurd c25 (by decide)
        · refine ax_aload_n hC 2 dX8_readBraces_51 rfl rfl ?_
          refine ax_getf (v := .ref (rd + 1)) hC e6 iX8 rfl 0 (by decide) (by decide +kernel) rfl rfl dX8_readBraces_52 ?_
          refine ax_iload_n hC 3 dX8_readBraces_55 rfl rfl ?_
          refine ax_callVp (st := []) hC [.int (nI nd)] x8 rfl (c_X7_labelsOf l D z B lo _ h5 (rd + 1) _ ((60, (pK (P6 G), pS (P6 G), pLt (P6 G), pLb (P6 G), pDp (P6 G), pIn (P6 G), pBr (P6 G), pSt (P6 G))) : PT) (nI nd) ⟨x8, x9, x10, x11, x12, x13, x14, x15, x16⟩ (Nat.le_refl 60)) (cwV 1 hC.1.2.2.2.2 gX8_readBraces_X7_labelsOf rfl rfl rfl (by decide +kernel) ⟨show 0 + 1 ≤ 12 + 3 * nv by omega, show 8 + (2 + 11) + (0) ≤ 500 + 200 * nv by omega⟩) rfl rfl (Nat.le_of_ble_eq_true rfl) dX8_readBraces_56 ⟨Nat.le_of_ble_eq_true rfl, Nat.le_of_ble_eq_true rfl⟩ (fun r26 er27 => ?_)
          subst er27
          refine ax_eqi (y := (pLb (P6 G)) nd) (rd_nat (n := 60) (j := nd) (by omega) (by decide)) ?_
          refine ax_eqi (y := 0) (hlb) ?_
          refine ax_iload hC 0 dX8_readBraces_59 rfl ?_
          refine ax_bipush (v := 97) hC dX8_readBraces_61 (by decide) ?_
          refine ax_isub hC dX8_readBraces_63 ?_
          refine ax_eqi (y := 0) (by decide) ?_
          refine ax_ishr hC dX8_readBraces_64 ?_
          refine ax_iconst (v := 1) hC dX8_readBraces_65 (by decide) ?_
          refine ax_iand hC dX8_readBraces_66 ?_
          refine ax_eqi (y := 0) (by decide) ?_
          refine ax_if_eq (tgt := 72) hC dX8_readBraces_67 (by decide) (fun c28 => ?_) (fun c28 => ?_)
          · refine ax_aload_n hC 2 dX8_readBraces_72 rfl rfl ?_
            refine ax_dup hC dX8_readBraces_73 rfl ?_
            refine ax_getf (v := .int (nI (ap + 1))) hC e6 iX8 rfl 4 (by decide) (by decide +kernel) rfl rfl dX8_readBraces_74 ?_
            refine ax_iconst (v := 1) hC dX8_readBraces_77 (by decide) ?_
            refine ax_iadd hC dX8_readBraces_78 ?_
            refine ax_eqi (y := nI (ap + 2)) (nI_1 _) ?_
            refine ax_putf (v := .int (nI (ap + 2))) (ty := .int) hC tyX8 e6 iX8 tyX8_ok nmX8 rfl 4 (by decide) (by decide +kernel) rfl rfl (by decide +kernel) (rfl) rfl (Nat.le_of_ble_eq_true rfl) dX8_readBraces_79 (fun h29 e30 f31 => ?_)
            have e30 : h29 rd = some (.inr (10, [.ref (rd + 1), .ref (rd + 10), .ref tp, .int (nI ln), .int (nI (ap + 2))])) := e30
            have x32 : h29 (rd + 1) = some (.inr (9, [.int (nI b), .ref (rd + 2), .ref (rd + 3), .ref (rd + 4), .ref (rd + 5), .ref (rd + 6), .ref (rd + 7), .ref (rd + 8), .ref (rd + 9)])) := (f31 _ (by omega)).trans x8
            have x33 : h29 (rd + 2) = some (.inl (z 1, 60, .inl (pK (P6 G)))) := (f31 _ (by omega)).trans x9
            have x34 : h29 (rd + 3) = some (.inl (z 1, 60, .inl (pS (P6 G)))) := (f31 _ (by omega)).trans x10
            have x35 : h29 (rd + 4) = some (.inl (z 1, 60, .inl (pLt (P6 G)))) := (f31 _ (by omega)).trans x11
            have x36 : h29 (rd + 5) = some (.inl (z 1, 60, .inl (pLb (P6 G)))) := (f31 _ (by omega)).trans x12
            have x37 : h29 (rd + 6) = some (.inl (z 1, 60, .inl (pDp (P6 G)))) := (f31 _ (by omega)).trans x13
            have x38 : h29 (rd + 7) = some (.inl (z 1, 60, .inl (pIn (P6 G)))) := (f31 _ (by omega)).trans x14
            have x39 : h29 (rd + 8) = some (.inl (z 1, 360, .inl (pBr (P6 G)))) := (f31 _ (by omega)).trans x15
            have x40 : h29 (rd + 9) = some (.inl (z 1, 60, .inl (pSt (P6 G)))) := (f31 _ (by omega)).trans x16
            have x41 : h29 (rd + 10) = some (.inl (z 1, 60, .inl (Ar))) := (f31 _ (by omega)).trans x17
            have x42 : h29 tp = some (.inl (z 1, 200, .inl (tx))) := (f31 _ (by omega)).trans x18
            refine ax_aload_n hC 2 dX8_readBraces_82 rfl rfl ?_
            refine ax_bipush (v := 58) hC dX8_readBraces_83 (by decide) ?_
            have hR43 : RdS z h29 rd tp ln (ap + 2) b (pK (P6 G), pS (P6 G), pLt (P6 G), pLb (P6 G), pDp (P6 G), pIn (P6 G), pBr (P6 G), pSt (P6 G)) Ar tx := ⟨e30, x32, x33, x34, x35, x36, x37, x38, x39, x40, x41, x42⟩
            refine ax_callVi (st := []) hC [.int 58] e30 rfl (c_X8_goesOn_y l D z B lo _ h29 rd tp ln (ap + 2) b ((pK (P6 G), pS (P6 G), pLt (P6 G), pLb (P6 G), pDp (P6 G), pIn (P6 G), pBr (P6 G), pSt (P6 G))) Ar tx hR43 htp 58 (by omega) (by omega) a2) (cwV 1 hC.1.2.2.2.2 gX8_readBraces_X8_goesOn rfl rfl rfl (by decide +kernel) ⟨show 1 + 1 ≤ 12 + 3 * nv by omega, show 8 + (2 + 11) + (20) ≤ 500 + 200 * nv by omega⟩) rfl rfl (Nat.le_of_ble_eq_true rfl) dX8_readBraces_85 ⟨Nat.le_of_ble_eq_true rfl, Nat.le_of_ble_eq_true rfl⟩ (fun r44 hi45 h46 hp47 => ?_)
            obtain ⟨er48, ei49, fr50, hR51⟩ := hp47
            replace ei49 := ei49.symm
            subst ei49
            subst er48
            obtain ⟨y52_0, y52_1, y52_2, y52_3, y52_4, y52_5, y52_6, y52_7, y52_8, y52_9, y52_10, y52_11⟩ := id hR51
            refine ax_if_ne (tgt := 93) hC dX8_readBraces_88 (by decide) (fun c53 => ?_) (fun c53 => ?_)
            · refine ax_aload_n hC 2 dX8_readBraces_93 rfl rfl ?_
              refine ax_iload_n hC 3 dX8_readBraces_94 rfl rfl ?_
              refine ax_iload_n hC 4 dX8_readBraces_95 rfl rfl ?_
              refine ax_iconst (v := 1) hC dX8_readBraces_96 (by decide) ?_
              refine ax_iadd hC dX8_readBraces_97 ?_
              refine ax_eqi (y := nI (op + 1)) (nI_1 op) ?_
              refine ax_iload_n hC 5 dX8_readBraces_98 rfl rfl ?_
              refine ax_callVi (st := []) hC [.int (nI nd), .int (nI (op + 1)), .int (nI d)] y52_0 rfl (hT w k T0 E d (op + 1) (nI nd) l D z B lo _ h46 rd tp ln (ap + 3) b ((pK (P6 G), pS (P6 G), pLt (P6 G), pLb (P6 G), pDp (P6 G), pIn (P6 G), pBr (P6 G), pSt (P6 G))) Ar tx hR51 htp hk0 hLp ht0 (by omega) (by omega) (by omega) (by omega)) (cwV 3 hC.1.2.2.2.2 gX8_readBraces_X8_readTalk rfl rfl rfl (by decide +kernel) ⟨show 10 + 3 * nv + 1 ≤ 12 + 3 * nv by omega, show 8 + (8 + 11) + (400 + 200 * nv) ≤ 500 + 200 * nv by omega⟩) rfl rfl (Nat.le_of_ble_eq_true rfl) dX8_readBraces_99 ⟨Nat.le_of_ble_eq_true rfl, Nat.le_of_ble_eq_true rfl⟩ (fun r54 hi55 h56 hp57 => ?_)
              obtain ⟨er58, ei59, fr60, G61, A62, hR63, he64, ha65, ht66⟩ := hp57
              replace ei59 := ei59.symm
              subst ei59
              subst er58
              obtain ⟨y67_0, y67_1, y67_2, y67_3, y67_4, y67_5, y67_6, y67_7, y67_8, y67_9, y67_10, y67_11⟩ := id hR63
              refine ax_istore hC [(6, .int (nI b)), (5, .int 97), (4, .int 1), (0, .ref rd), (1, .int (nI nd)), (2, .int (nI op)), (3, .int (nI d))] dX8_readBraces_102 (by decide) rfl ?_
              refine ax_iload hC 0 dX8_readBraces_104 rfl ?_
              refine ax_if_ge (tgt := 111) hC dX8_readBraces_106 (by decide) (fun c68 => ?_) (fun c68 => ?_)
              · refine ax_aload_n hC 3 dX8_readBraces_111 rfl rfl ?_
                refine ax_iload_n hC 4 dX8_readBraces_112 rfl rfl ?_
                refine ax_iload hC 1 dX8_readBraces_113 rfl ?_
                refine ax_bipush (v := 97) hC dX8_readBraces_115 (by decide) ?_
                refine ax_isub hC dX8_readBraces_117 ?_
                refine ax_eqi (y := 0) (by decide) ?_
                refine ax_iload hC 0 dX8_readBraces_118 rfl ?_
                have hl69 : pLb (P6 G61) nd = nI (2 ^ 0 - 1) := (he64.1 nd (by omega)).2.2.2.1.trans hlb
                refine ax_callVv (st := []) hC [.int (nI nd), .int 0, .int (nI b)] y67_0 rfl (c_X8_addBranch l D z B lo _ h56 rd tp ln (ap + 3 + (txt nv w k T0).length) (b + siz nv w T0) G61 A62 tx nd 0 b hR63 htp (by omega) (by decide) hl69) (cwV 3 hC.1.2.2.2.2 gX8_readBraces_X8_addBranch rfl rfl rfl (by decide +kernel) ⟨show 1 + 1 ≤ 12 + 3 * nv by omega, show 8 + (9 + 11) + (40) ≤ 500 + 200 * nv by omega⟩) rfl rfl (Nat.le_of_ble_eq_true rfl) dX8_readBraces_120 ⟨Nat.le_of_ble_eq_true rfl, Nat.le_of_ble_eq_true rfl⟩ (fun hi70 h71 hp72 => ?_)
                obtain ⟨ei73, fr74, hR75⟩ := hp72
                replace ei73 := ei73.symm
                subst ei73
                obtain ⟨y76_0, y76_1, y76_2, y76_3, y76_4, y76_5, y76_6, y76_7, y76_8, y76_9, y76_10, y76_11⟩ := id hR75
                refine ax_aload_n hC 3 dX8_readBraces_123 rfl rfl ?_
                refine ax_bipush (v := 125) hC dX8_readBraces_124 (by decide) ?_
                refine ax_callVp (st := []) hC [.int 125] y76_0 rfl (c_X8_goesOn_n l D z B lo _ h71 rd tp ln (ap + 3 + (txt nv w k T0).length) (b + siz nv w T0) (addB G61 nd 0 b) A62 tx hR75 htp 125 (by omega) (by omega) (by rw [a3]; decide)) (cwV 1 hC.1.2.2.2.2 gX8_readBraces_X8_goesOn rfl rfl rfl (by decide +kernel) ⟨show 1 + 1 ≤ 12 + 3 * nv by omega, show 8 + (2 + 11) + (20) ≤ 500 + 200 * nv by omega⟩) rfl rfl (Nat.le_of_ble_eq_true rfl) dX8_readBraces_126 ⟨Nat.le_of_ble_eq_true rfl, Nat.le_of_ble_eq_true rfl⟩ (fun r77 er78 => ?_)
                subst er78
                refine ax_if_eq (tgt := 134) hC dX8_readBraces_129 (by decide) (fun c79 => ?_) (fun c79 => ?_)
                · refine ax_iload hC 2 dX8_readBraces_134 rfl ?_
                  refine ax_bipush (v := 6) hC dX8_readBraces_136 (by decide) ?_
                  refine ax_icmp_eq (tgt := 150) hC dX8_readBraces_138 (by decide) (fun c80 => ?_) (fun c80 => ?_)
                  · exact absurd c80 (by decide)
                  · refine ax_aload_n hC 3 dX8_readBraces_141 rfl rfl ?_
                    refine ax_bipush (v := 44) hC dX8_readBraces_142 (by decide) ?_
                    refine ax_callVi (st := []) hC [.int 44] y76_0 rfl (c_X8_goesOn_y l D z B lo _ h71 rd tp ln (ap + 3 + (txt nv w k T0).length) (b + siz nv w T0) (addB G61 nd 0 b) A62 tx hR75 htp 44 (by omega) (by omega) a3) (cwV 1 hC.1.2.2.2.2 gX8_readBraces_X8_goesOn rfl rfl rfl (by decide +kernel) ⟨show 1 + 1 ≤ 12 + 3 * nv by omega, show 8 + (2 + 11) + (20) ≤ 500 + 200 * nv by omega⟩) rfl rfl (Nat.le_of_ble_eq_true rfl) dX8_readBraces_144 ⟨Nat.le_of_ble_eq_true rfl, Nat.le_of_ble_eq_true rfl⟩ (fun r81 hi82 h83 hp84 => ?_)
                    obtain ⟨er85, ei86, fr87, hR88⟩ := hp84
                    replace ei86 := ei86.symm
                    subst ei86
                    subst er85
                    obtain ⟨y89_0, y89_1, y89_2, y89_3, y89_4, y89_5, y89_6, y89_7, y89_8, y89_9, y89_10, y89_11⟩ := id hR88
                    refine ax_if_ne (tgt := 152) hC dX8_readBraces_147 (by decide) (fun c90 => ?_) (fun c90 => ?_)
                    · refine ax_iinc (v := 2) hC 2 [(4, .int 2), (6, .int (nI b)), (5, .int 97), (0, .ref rd), (1, .int (nI nd)), (2, .int (nI op)), (3, .int (nI d))] dX8_readBraces_152 rfl (by decide) (by decide) rfl ?_
                      refine ax_goto (tgt := 30) hC dX8_readBraces_155 (by decide) ?_
                      refine ax_iload hC 0 dX8_readBraces_30 rfl ?_
                      refine ax_bipush (v := 6) hC dX8_readBraces_32 (by decide) ?_
                      refine ax_icmp_gt (tgt := 158) hC dX8_readBraces_34 (by decide) (fun c92 => ?_) (fun c92 => ?_)
                      · exact absurd c92 (by decide)
                      · refine ax_aload_n hC 3 dX8_readBraces_37 rfl rfl ?_
                        refine ax_callVp (st := []) hC [] y89_0 rfl (c_X8_sign l D z B lo _ h83 rd tp ln (ap + 3 + (txt nv w k T0).length + 1) (b + siz nv w T0) (addB G61 nd 0 b) A62 tx hR88 htp (by omega) (by omega)) (cwV 0 hC.1.2.2.2.2 gX8_readBraces_X8_sign rfl rfl rfl (by decide +kernel) ⟨show 0 + 1 ≤ 12 + 3 * nv by omega, show 8 + (1 + 11) + (0) ≤ 500 + 200 * nv by omega⟩) rfl rfl (Nat.le_of_ble_eq_true rfl) dX8_readBraces_38 ⟨Nat.le_of_ble_eq_true rfl, Nat.le_of_ble_eq_true rfl⟩ (fun r93 er94 => ?_)
                        subst er94
                        refine ax_eqi (y := 98) a4 ?_
                        refine ax_istore hC [(5, .int 98), (4, .int 2), (6, .int (nI b)), (0, .ref rd), (1, .int (nI nd)), (2, .int (nI op)), (3, .int (nI d))] dX8_readBraces_41 (by decide) rfl ?_
                        refine ax_iload hC 0 dX8_readBraces_43 rfl ?_
                        refine ax_callSp (st := []) hC [.int 98] (c_X8_isLetter l D z B lo _ h83 98) (va_cwS 1 hC.1.2.2.2.2 gX8_readBraces_X8_isLetter rfl rfl rfl (by decide +kernel) ⟨show 0 + 1 ≤ 12 + 3 * nv by omega, show 8 + (1 + 11) + (0) ≤ 500 + 200 * nv by omega⟩) rfl rfl (Nat.le_of_ble_eq_true rfl) dX8_readBraces_45 ⟨Nat.le_of_ble_eq_true rfl, Nat.le_of_ble_eq_true rfl⟩ (fun r95 er96 => ?_)
                        subst er96
                        refine ax_eqi (y := 1) (by decide) ?_
                        refine ax_if_eq (tgt := 70) hC dX8_readBraces_48 (by decide) (fun c97 => ?_) (fun c97 => ?_)
                        · exact absurd c97 (by decide)
                        · refine ax_aload_n hC 3 dX8_readBraces_51 rfl rfl ?_
                          refine ax_getf (v := .ref (rd + 1)) hC y89_0 iX8 rfl 0 (by decide) (by decide +kernel) rfl rfl dX8_readBraces_52 ?_
                          refine ax_iload_n hC 4 dX8_readBraces_55 rfl rfl ?_
                          refine ax_callVp (st := []) hC [.int (nI nd)] y89_1 rfl (c_X7_labelsOf l D z B lo _ h83 (rd + 1) _ ((60, (pK (P6 (addB G61 nd 0 b)), pS (P6 (addB G61 nd 0 b)), pLt (P6 (addB G61 nd 0 b)), pLb (P6 (addB G61 nd 0 b)), pDp (P6 (addB G61 nd 0 b)), pIn (P6 (addB G61 nd 0 b)), pBr (P6 (addB G61 nd 0 b)), pSt (P6 (addB G61 nd 0 b)))) : PT) (nI nd) ⟨y89_1, y89_2, y89_3, y89_4, y89_5, y89_6, y89_7, y89_8, y89_9⟩ (Nat.le_refl 60)) (cwV 1 hC.1.2.2.2.2 gX8_readBraces_X7_labelsOf rfl rfl rfl (by decide +kernel) ⟨show 0 + 1 ≤ 12 + 3 * nv by omega, show 8 + (2 + 11) + (0) ≤ 500 + 200 * nv by omega⟩) rfl rfl (Nat.le_of_ble_eq_true rfl) dX8_readBraces_56 ⟨Nat.le_of_ble_eq_true rfl, Nat.le_of_ble_eq_true rfl⟩ (fun r98 er99 => ?_)
                          subst er99
                          refine ax_eqi (y := (pLb (P6 (addB G61 nd 0 b))) nd) (rd_nat (n := 60) (j := nd) (by omega) (by decide)) ?_
                          refine ax_eqi (y := 1) (upd_self _ _ _) ?_
                          refine ax_iload hC 0 dX8_readBraces_59 rfl ?_
                          refine ax_bipush (v := 97) hC dX8_readBraces_61 (by decide) ?_
                          refine ax_isub hC dX8_readBraces_63 ?_
                          refine ax_eqi (y := 1) (by decide) ?_
                          refine ax_ishr hC dX8_readBraces_64 ?_
                          refine ax_iconst (v := 1) hC dX8_readBraces_65 (by decide) ?_
                          refine ax_iand hC dX8_readBraces_66 ?_
                          refine ax_eqi (y := 0) (by decide) ?_
                          refine ax_if_eq (tgt := 72) hC dX8_readBraces_67 (by decide) (fun c100 => ?_) (fun c100 => ?_)
                          · refine ax_aload_n hC 3 dX8_readBraces_72 rfl rfl ?_
                            refine ax_dup hC dX8_readBraces_73 rfl ?_
                            refine ax_getf (v := .int (nI (ap + 3 + (txt nv w k T0).length + 1))) hC y89_0 iX8 rfl 4 (by decide) (by decide +kernel) rfl rfl dX8_readBraces_74 ?_
                            refine ax_iconst (v := 1) hC dX8_readBraces_77 (by decide) ?_
                            refine ax_iadd hC dX8_readBraces_78 ?_
                            refine ax_eqi (y := nI (ap + 3 + (txt nv w k T0).length + 2)) (nI_1 _) ?_
                            refine ax_putf (v := .int (nI (ap + 3 + (txt nv w k T0).length + 2))) (ty := .int) hC tyX8 y89_0 iX8 tyX8_ok nmX8 rfl 4 (by decide) (by decide +kernel) rfl rfl (by decide +kernel) (rfl) rfl (Nat.le_of_ble_eq_true rfl) dX8_readBraces_79 (fun h101 e102 f103 => ?_)
                            have e102 : h101 rd = some (.inr (10, [.ref (rd + 1), .ref (rd + 10), .ref tp, .int (nI ln), .int (nI (ap + 3 + (txt nv w k T0).length + 2))])) := e102
                            have x104 : h101 (rd + 1) = some (.inr (9, [.int (nI (b + siz nv w T0)), .ref (rd + 2), .ref (rd + 3), .ref (rd + 4), .ref (rd + 5), .ref (rd + 6), .ref (rd + 7), .ref (rd + 8), .ref (rd + 9)])) := (f103 _ (by omega)).trans y89_1
                            have x105 : h101 (rd + 2) = some (.inl (z 1, 60, .inl (pK (P6 (addB G61 nd 0 b))))) := (f103 _ (by omega)).trans y89_2
                            have x106 : h101 (rd + 3) = some (.inl (z 1, 60, .inl (pS (P6 (addB G61 nd 0 b))))) := (f103 _ (by omega)).trans y89_3
                            have x107 : h101 (rd + 4) = some (.inl (z 1, 60, .inl (pLt (P6 (addB G61 nd 0 b))))) := (f103 _ (by omega)).trans y89_4
                            have x108 : h101 (rd + 5) = some (.inl (z 1, 60, .inl (pLb (P6 (addB G61 nd 0 b))))) := (f103 _ (by omega)).trans y89_5
                            have x109 : h101 (rd + 6) = some (.inl (z 1, 60, .inl (pDp (P6 (addB G61 nd 0 b))))) := (f103 _ (by omega)).trans y89_6
                            have x110 : h101 (rd + 7) = some (.inl (z 1, 60, .inl (pIn (P6 (addB G61 nd 0 b))))) := (f103 _ (by omega)).trans y89_7
                            have x111 : h101 (rd + 8) = some (.inl (z 1, 360, .inl (pBr (P6 (addB G61 nd 0 b))))) := (f103 _ (by omega)).trans y89_8
                            have x112 : h101 (rd + 9) = some (.inl (z 1, 60, .inl (pSt (P6 (addB G61 nd 0 b))))) := (f103 _ (by omega)).trans y89_9
                            have x113 : h101 (rd + 10) = some (.inl (z 1, 60, .inl (A62))) := (f103 _ (by omega)).trans y89_10
                            have x114 : h101 tp = some (.inl (z 1, 200, .inl (tx))) := (f103 _ (by omega)).trans y89_11
                            refine ax_aload_n hC 3 dX8_readBraces_82 rfl rfl ?_
                            refine ax_bipush (v := 58) hC dX8_readBraces_83 (by decide) ?_
                            have hR115 : RdS z h101 rd tp ln (ap + 3 + (txt nv w k T0).length + 2) (b + siz nv w T0) (pK (P6 (addB G61 nd 0 b)), pS (P6 (addB G61 nd 0 b)), pLt (P6 (addB G61 nd 0 b)), pLb (P6 (addB G61 nd 0 b)), pDp (P6 (addB G61 nd 0 b)), pIn (P6 (addB G61 nd 0 b)), pBr (P6 (addB G61 nd 0 b)), pSt (P6 (addB G61 nd 0 b))) A62 tx := ⟨e102, x104, x105, x106, x107, x108, x109, x110, x111, x112, x113, x114⟩
                            refine ax_callVi (st := []) hC [.int 58] e102 rfl (c_X8_goesOn_y l D z B lo _ h101 rd tp ln (ap + 3 + (txt nv w k T0).length + 2) (b + siz nv w T0) ((pK (P6 (addB G61 nd 0 b)), pS (P6 (addB G61 nd 0 b)), pLt (P6 (addB G61 nd 0 b)), pLb (P6 (addB G61 nd 0 b)), pDp (P6 (addB G61 nd 0 b)), pIn (P6 (addB G61 nd 0 b)), pBr (P6 (addB G61 nd 0 b)), pSt (P6 (addB G61 nd 0 b)))) A62 tx hR115 htp 58 (by omega) (by omega) a5) (cwV 1 hC.1.2.2.2.2 gX8_readBraces_X8_goesOn rfl rfl rfl (by decide +kernel) ⟨show 1 + 1 ≤ 12 + 3 * nv by omega, show 8 + (2 + 11) + (20) ≤ 500 + 200 * nv by omega⟩) rfl rfl (Nat.le_of_ble_eq_true rfl) dX8_readBraces_85 ⟨Nat.le_of_ble_eq_true rfl, Nat.le_of_ble_eq_true rfl⟩ (fun r116 hi117 h118 hp119 => ?_)
                            obtain ⟨er120, ei121, fr122, hR123⟩ := hp119
                            replace ei121 := ei121.symm
                            subst ei121
                            subst er120
                            obtain ⟨y124_0, y124_1, y124_2, y124_3, y124_4, y124_5, y124_6, y124_7, y124_8, y124_9, y124_10, y124_11⟩ := id hR123
                            refine ax_if_ne (tgt := 93) hC dX8_readBraces_88 (by decide) (fun c125 => ?_) (fun c125 => ?_)
                            · refine ax_aload_n hC 3 dX8_readBraces_93 rfl rfl ?_
                              refine ax_iload_n hC 4 dX8_readBraces_94 rfl rfl ?_
                              refine ax_iload_n hC 5 dX8_readBraces_95 rfl rfl ?_
                              refine ax_iconst (v := 1) hC dX8_readBraces_96 (by decide) ?_
                              refine ax_iadd hC dX8_readBraces_97 ?_
                              refine ax_eqi (y := nI (op + 1)) (nI_1 op) ?_
                              refine ax_iload_n hC 6 dX8_readBraces_98 rfl rfl ?_
                              have hLp126 : LpsOK ((pK (P6 (addB G61 nd 0 b)), pS (P6 (addB G61 nd 0 b)), pLt (P6 (addB G61 nd 0 b)), pLb (P6 (addB G61 nd 0 b)), pDp (P6 (addB G61 nd 0 b)), pIn (P6 (addB G61 nd 0 b)), pBr (P6 (addB G61 nd 0 b)), pSt (P6 (addB G61 nd 0 b)))) A62 (b + siz nv w T0) k E (nI nd) := hLp.mono2 (fun i hi9 => ⟨(he64.1 i (by omega)).1, (he64.1 i (by omega)).2.2.1, ha65 i (by omega)⟩) (by omega)
                              refine ax_callVi (st := []) hC [.int (nI nd), .int (nI (op + 1)), .int (nI d)] y124_0 rfl (hT w k T1 E d (op + 1) (nI nd) l D z B lo _ h118 rd tp ln (ap + 3 + (txt nv w k T0).length + 3) (b + siz nv w T0) ((pK (P6 (addB G61 nd 0 b)), pS (P6 (addB G61 nd 0 b)), pLt (P6 (addB G61 nd 0 b)), pLb (P6 (addB G61 nd 0 b)), pDp (P6 (addB G61 nd 0 b)), pIn (P6 (addB G61 nd 0 b)), pBr (P6 (addB G61 nd 0 b)), pSt (P6 (addB G61 nd 0 b)))) A62 tx hR123 htp hk1 hLp126 ht1 (by omega) (by omega) (by omega) (by omega)) (cwV 3 hC.1.2.2.2.2 gX8_readBraces_X8_readTalk rfl rfl rfl (by decide +kernel) ⟨show 10 + 3 * nv + 1 ≤ 12 + 3 * nv by omega, show 8 + (8 + 11) + (400 + 200 * nv) ≤ 500 + 200 * nv by omega⟩) rfl rfl (Nat.le_of_ble_eq_true rfl) dX8_readBraces_99 ⟨Nat.le_of_ble_eq_true rfl, Nat.le_of_ble_eq_true rfl⟩ (fun r127 hi128 h129 hp130 => ?_)
                              obtain ⟨er131, ei132, fr133, G134, A135, hR136, he137, ha138, ht139⟩ := hp130
                              replace ei132 := ei132.symm
                              subst ei132
                              subst er131
                              obtain ⟨y140_0, y140_1, y140_2, y140_3, y140_4, y140_5, y140_6, y140_7, y140_8, y140_9, y140_10, y140_11⟩ := id hR136
                              refine ax_istore hC [(6, .int (nI (b + siz nv w T0))), (5, .int 98), (4, .int 2), (0, .ref rd), (1, .int (nI nd)), (2, .int (nI op)), (3, .int (nI d))] dX8_readBraces_102 (by decide) rfl ?_
                              refine ax_iload hC 0 dX8_readBraces_104 rfl ?_
                              refine ax_if_ge (tgt := 111) hC dX8_readBraces_106 (by decide) (fun c141 => ?_) (fun c141 => ?_)
                              · refine ax_aload_n hC 3 dX8_readBraces_111 rfl rfl ?_
                                refine ax_iload_n hC 4 dX8_readBraces_112 rfl rfl ?_
                                refine ax_iload hC 1 dX8_readBraces_113 rfl ?_
                                refine ax_bipush (v := 97) hC dX8_readBraces_115 (by decide) ?_
                                refine ax_isub hC dX8_readBraces_117 ?_
                                refine ax_eqi (y := 1) (by decide) ?_
                                refine ax_iload hC 0 dX8_readBraces_118 rfl ?_
                                have hl142 : pLb (P6 G134) nd = nI (2 ^ 1 - 1) := (he137.1 nd (by omega)).2.2.2.1.trans (upd_self _ _ _)
                                refine ax_callVv (st := []) hC [.int (nI nd), .int 1, .int (nI (b + siz nv w T0))] y140_0 rfl (c_X8_addBranch l D z B lo _ h129 rd tp ln (ap + 3 + (txt nv w k T0).length + 3 + (txt nv w k T1).length) (b + siz nv w T0 + siz nv w T1) G134 A135 tx nd 1 (b + siz nv w T0) hR136 htp (by omega) (by decide) hl142) (cwV 3 hC.1.2.2.2.2 gX8_readBraces_X8_addBranch rfl rfl rfl (by decide +kernel) ⟨show 1 + 1 ≤ 12 + 3 * nv by omega, show 8 + (9 + 11) + (40) ≤ 500 + 200 * nv by omega⟩) rfl rfl (Nat.le_of_ble_eq_true rfl) dX8_readBraces_120 ⟨Nat.le_of_ble_eq_true rfl, Nat.le_of_ble_eq_true rfl⟩ (fun hi143 h144 hp145 => ?_)
                                obtain ⟨ei146, fr147, hR148⟩ := hp145
                                replace ei146 := ei146.symm
                                subst ei146
                                obtain ⟨y149_0, y149_1, y149_2, y149_3, y149_4, y149_5, y149_6, y149_7, y149_8, y149_9, y149_10, y149_11⟩ := id hR148
                                refine ax_aload_n hC 3 dX8_readBraces_123 rfl rfl ?_
                                refine ax_bipush (v := 125) hC dX8_readBraces_124 (by decide) ?_
                                refine ax_callVp (st := []) hC [.int 125] y149_0 rfl (c_X8_goesOn_n l D z B lo _ h144 rd tp ln (ap + 3 + (txt nv w k T0).length + 3 + (txt nv w k T1).length) (b + siz nv w T0 + siz nv w T1) ((addB G134 nd 1 (b + siz nv w T0))) A135 tx hR148 htp 125 (by omega) (by omega) (by rw [a6]; decide)) (cwV 1 hC.1.2.2.2.2 gX8_readBraces_X8_goesOn rfl rfl rfl (by decide +kernel) ⟨show 1 + 1 ≤ 12 + 3 * nv by omega, show 8 + (2 + 11) + (20) ≤ 500 + 200 * nv by omega⟩) rfl rfl (Nat.le_of_ble_eq_true rfl) dX8_readBraces_126 ⟨Nat.le_of_ble_eq_true rfl, Nat.le_of_ble_eq_true rfl⟩ (fun r150 er151 => ?_)
                                subst er151
                                refine ax_if_eq (tgt := 134) hC dX8_readBraces_129 (by decide) (fun c152 => ?_) (fun c152 => ?_)
                                · refine ax_iload hC 2 dX8_readBraces_134 rfl ?_
                                  refine ax_bipush (v := 6) hC dX8_readBraces_136 (by decide) ?_
                                  refine ax_icmp_eq (tgt := 150) hC dX8_readBraces_138 (by decide) (fun c153 => ?_) (fun c153 => ?_)
                                  · exact absurd c153 (by decide)
                                  · refine ax_aload_n hC 3 dX8_readBraces_141 rfl rfl ?_
                                    refine ax_bipush (v := 44) hC dX8_readBraces_142 (by decide) ?_
                                    refine ax_callVi (st := []) hC [.int 44] y149_0 rfl (c_X8_goesOn_y l D z B lo _ h144 rd tp ln (ap + 3 + (txt nv w k T0).length + 3 + (txt nv w k T1).length) (b + siz nv w T0 + siz nv w T1) ((addB G134 nd 1 (b + siz nv w T0))) A135 tx hR148 htp 44 (by omega) (by omega) a6) (cwV 1 hC.1.2.2.2.2 gX8_readBraces_X8_goesOn rfl rfl rfl (by decide +kernel) ⟨show 1 + 1 ≤ 12 + 3 * nv by omega, show 8 + (2 + 11) + (20) ≤ 500 + 200 * nv by omega⟩) rfl rfl (Nat.le_of_ble_eq_true rfl) dX8_readBraces_144 ⟨Nat.le_of_ble_eq_true rfl, Nat.le_of_ble_eq_true rfl⟩ (fun r154 hi155 h156 hp157 => ?_)
                                    obtain ⟨er158, ei159, fr160, hR161⟩ := hp157
                                    replace ei159 := ei159.symm
                                    subst ei159
                                    subst er158
                                    obtain ⟨y162_0, y162_1, y162_2, y162_3, y162_4, y162_5, y162_6, y162_7, y162_8, y162_9, y162_10, y162_11⟩ := id hR161
                                    refine ax_if_ne (tgt := 152) hC dX8_readBraces_147 (by decide) (fun c163 => ?_) (fun c163 => ?_)
                                    · refine ax_iinc (v := 3) hC 2 [(4, .int 3), (6, .int (nI (b + siz nv w T0))), (5, .int 98), (0, .ref rd), (1, .int (nI nd)), (2, .int (nI op)), (3, .int (nI d))] dX8_readBraces_152 rfl (by decide) (by decide) rfl ?_
                                      refine ax_goto (tgt := 30) hC dX8_readBraces_155 (by decide) ?_
                                      refine ax_iload hC 0 dX8_readBraces_30 rfl ?_
                                      refine ax_bipush (v := 6) hC dX8_readBraces_32 (by decide) ?_
                                      refine ax_icmp_gt (tgt := 158) hC dX8_readBraces_34 (by decide) (fun c165 => ?_) (fun c165 => ?_)
                                      · exact absurd c165 (by decide)
                                      · refine ax_aload_n hC 3 dX8_readBraces_37 rfl rfl ?_
                                        refine ax_callVp (st := []) hC [] y162_0 rfl (c_X8_sign l D z B lo _ h156 rd tp ln (ap + 3 + (txt nv w k T0).length + 3 + (txt nv w k T1).length + 1) (b + siz nv w T0 + siz nv w T1) ((addB G134 nd 1 (b + siz nv w T0))) A135 tx hR161 htp (by omega) (by omega)) (cwV 0 hC.1.2.2.2.2 gX8_readBraces_X8_sign rfl rfl rfl (by decide +kernel) ⟨show 0 + 1 ≤ 12 + 3 * nv by omega, show 8 + (1 + 11) + (0) ≤ 500 + 200 * nv by omega⟩) rfl rfl (Nat.le_of_ble_eq_true rfl) dX8_readBraces_38 ⟨Nat.le_of_ble_eq_true rfl, Nat.le_of_ble_eq_true rfl⟩ (fun r166 er167 => ?_)
                                        subst er167
                                        refine ax_eqi (y := 99) a7 ?_
                                        refine ax_istore hC [(5, .int 99), (4, .int 3), (6, .int (nI (b + siz nv w T0))), (0, .ref rd), (1, .int (nI nd)), (2, .int (nI op)), (3, .int (nI d))] dX8_readBraces_41 (by decide) rfl ?_
                                        refine ax_iload hC 0 dX8_readBraces_43 rfl ?_
                                        refine ax_callSp (st := []) hC [.int 99] (c_X8_isLetter l D z B lo _ h156 99) (va_cwS 1 hC.1.2.2.2.2 gX8_readBraces_X8_isLetter rfl rfl rfl (by decide +kernel) ⟨show 0 + 1 ≤ 12 + 3 * nv by omega, show 8 + (1 + 11) + (0) ≤ 500 + 200 * nv by omega⟩) rfl rfl (Nat.le_of_ble_eq_true rfl) dX8_readBraces_45 ⟨Nat.le_of_ble_eq_true rfl, Nat.le_of_ble_eq_true rfl⟩ (fun r168 er169 => ?_)
                                        subst er169
                                        refine ax_eqi (y := 1) (by decide) ?_
                                        refine ax_if_eq (tgt := 70) hC dX8_readBraces_48 (by decide) (fun c170 => ?_) (fun c170 => ?_)
                                        · exact absurd c170 (by decide)
                                        · refine ax_aload_n hC 3 dX8_readBraces_51 rfl rfl ?_
                                          refine ax_getf (v := .ref (rd + 1)) hC y162_0 iX8 rfl 0 (by decide) (by decide +kernel) rfl rfl dX8_readBraces_52 ?_
                                          refine ax_iload_n hC 4 dX8_readBraces_55 rfl rfl ?_
                                          refine ax_callVp (st := []) hC [.int (nI nd)] y162_1 rfl (c_X7_labelsOf l D z B lo _ h156 (rd + 1) _ ((60, (pK (P6 (addB G134 nd 1 (b + siz nv w T0))), pS (P6 (addB G134 nd 1 (b + siz nv w T0))), pLt (P6 (addB G134 nd 1 (b + siz nv w T0))), pLb (P6 (addB G134 nd 1 (b + siz nv w T0))), pDp (P6 (addB G134 nd 1 (b + siz nv w T0))), pIn (P6 (addB G134 nd 1 (b + siz nv w T0))), pBr (P6 (addB G134 nd 1 (b + siz nv w T0))), pSt (P6 (addB G134 nd 1 (b + siz nv w T0))))) : PT) (nI nd) ⟨y162_1, y162_2, y162_3, y162_4, y162_5, y162_6, y162_7, y162_8, y162_9⟩ (Nat.le_refl 60)) (cwV 1 hC.1.2.2.2.2 gX8_readBraces_X7_labelsOf rfl rfl rfl (by decide +kernel) ⟨show 0 + 1 ≤ 12 + 3 * nv by omega, show 8 + (2 + 11) + (0) ≤ 500 + 200 * nv by omega⟩) rfl rfl (Nat.le_of_ble_eq_true rfl) dX8_readBraces_56 ⟨Nat.le_of_ble_eq_true rfl, Nat.le_of_ble_eq_true rfl⟩ (fun r171 er172 => ?_)
                                          subst er172
                                          refine ax_eqi (y := (pLb (P6 (addB G134 nd 1 (b + siz nv w T0)))) nd) (rd_nat (n := 60) (j := nd) (by omega) (by decide)) ?_
                                          refine ax_eqi (y := 3) (upd_self _ _ _) ?_
                                          refine ax_iload hC 0 dX8_readBraces_59 rfl ?_
                                          refine ax_bipush (v := 97) hC dX8_readBraces_61 (by decide) ?_
                                          refine ax_isub hC dX8_readBraces_63 ?_
                                          refine ax_eqi (y := 2) (by decide) ?_
                                          refine ax_ishr hC dX8_readBraces_64 ?_
                                          refine ax_iconst (v := 1) hC dX8_readBraces_65 (by decide) ?_
                                          refine ax_iand hC dX8_readBraces_66 ?_
                                          refine ax_eqi (y := 0) (by decide) ?_
                                          refine ax_if_eq (tgt := 72) hC dX8_readBraces_67 (by decide) (fun c173 => ?_) (fun c173 => ?_)
                                          · refine ax_aload_n hC 3 dX8_readBraces_72 rfl rfl ?_
                                            refine ax_dup hC dX8_readBraces_73 rfl ?_
                                            refine ax_getf (v := .int (nI (ap + 3 + (txt nv w k T0).length + 3 + (txt nv w k T1).length + 1))) hC y162_0 iX8 rfl 4 (by decide) (by decide +kernel) rfl rfl dX8_readBraces_74 ?_
                                            refine ax_iconst (v := 1) hC dX8_readBraces_77 (by decide) ?_
                                            refine ax_iadd hC dX8_readBraces_78 ?_
                                            refine ax_eqi (y := nI (ap + 3 + (txt nv w k T0).length + 3 + (txt nv w k T1).length + 2)) (nI_1 _) ?_
                                            refine ax_putf (v := .int (nI (ap + 3 + (txt nv w k T0).length + 3 + (txt nv w k T1).length + 2))) (ty := .int) hC tyX8 y162_0 iX8 tyX8_ok nmX8 rfl 4 (by decide) (by decide +kernel) rfl rfl (by decide +kernel) (rfl) rfl (Nat.le_of_ble_eq_true rfl) dX8_readBraces_79 (fun h174 e175 f176 => ?_)
                                            have e175 : h174 rd = some (.inr (10, [.ref (rd + 1), .ref (rd + 10), .ref tp, .int (nI ln), .int (nI (ap + 3 + (txt nv w k T0).length + 3 + (txt nv w k T1).length + 2))])) := e175
                                            have x177 : h174 (rd + 1) = some (.inr (9, [.int (nI (b + siz nv w T0 + siz nv w T1)), .ref (rd + 2), .ref (rd + 3), .ref (rd + 4), .ref (rd + 5), .ref (rd + 6), .ref (rd + 7), .ref (rd + 8), .ref (rd + 9)])) := (f176 _ (by omega)).trans y162_1
                                            have x178 : h174 (rd + 2) = some (.inl (z 1, 60, .inl (pK (P6 (addB G134 nd 1 (b + siz nv w T0)))))) := (f176 _ (by omega)).trans y162_2
                                            have x179 : h174 (rd + 3) = some (.inl (z 1, 60, .inl (pS (P6 (addB G134 nd 1 (b + siz nv w T0)))))) := (f176 _ (by omega)).trans y162_3
                                            have x180 : h174 (rd + 4) = some (.inl (z 1, 60, .inl (pLt (P6 (addB G134 nd 1 (b + siz nv w T0)))))) := (f176 _ (by omega)).trans y162_4
                                            have x181 : h174 (rd + 5) = some (.inl (z 1, 60, .inl (pLb (P6 (addB G134 nd 1 (b + siz nv w T0)))))) := (f176 _ (by omega)).trans y162_5
                                            have x182 : h174 (rd + 6) = some (.inl (z 1, 60, .inl (pDp (P6 (addB G134 nd 1 (b + siz nv w T0)))))) := (f176 _ (by omega)).trans y162_6
                                            have x183 : h174 (rd + 7) = some (.inl (z 1, 60, .inl (pIn (P6 (addB G134 nd 1 (b + siz nv w T0)))))) := (f176 _ (by omega)).trans y162_7
                                            have x184 : h174 (rd + 8) = some (.inl (z 1, 360, .inl (pBr (P6 (addB G134 nd 1 (b + siz nv w T0)))))) := (f176 _ (by omega)).trans y162_8
                                            have x185 : h174 (rd + 9) = some (.inl (z 1, 60, .inl (pSt (P6 (addB G134 nd 1 (b + siz nv w T0)))))) := (f176 _ (by omega)).trans y162_9
                                            have x186 : h174 (rd + 10) = some (.inl (z 1, 60, .inl (A135))) := (f176 _ (by omega)).trans y162_10
                                            have x187 : h174 tp = some (.inl (z 1, 200, .inl (tx))) := (f176 _ (by omega)).trans y162_11
                                            refine ax_aload_n hC 3 dX8_readBraces_82 rfl rfl ?_
                                            refine ax_bipush (v := 58) hC dX8_readBraces_83 (by decide) ?_
                                            have hR188 : RdS z h174 rd tp ln (ap + 3 + (txt nv w k T0).length + 3 + (txt nv w k T1).length + 2) (b + siz nv w T0 + siz nv w T1) (pK (P6 (addB G134 nd 1 (b + siz nv w T0))), pS (P6 (addB G134 nd 1 (b + siz nv w T0))), pLt (P6 (addB G134 nd 1 (b + siz nv w T0))), pLb (P6 (addB G134 nd 1 (b + siz nv w T0))), pDp (P6 (addB G134 nd 1 (b + siz nv w T0))), pIn (P6 (addB G134 nd 1 (b + siz nv w T0))), pBr (P6 (addB G134 nd 1 (b + siz nv w T0))), pSt (P6 (addB G134 nd 1 (b + siz nv w T0)))) A135 tx := ⟨e175, x177, x178, x179, x180, x181, x182, x183, x184, x185, x186, x187⟩
                                            refine ax_callVi (st := []) hC [.int 58] e175 rfl (c_X8_goesOn_y l D z B lo _ h174 rd tp ln (ap + 3 + (txt nv w k T0).length + 3 + (txt nv w k T1).length + 2) (b + siz nv w T0 + siz nv w T1) ((pK (P6 (addB G134 nd 1 (b + siz nv w T0))), pS (P6 (addB G134 nd 1 (b + siz nv w T0))), pLt (P6 (addB G134 nd 1 (b + siz nv w T0))), pLb (P6 (addB G134 nd 1 (b + siz nv w T0))), pDp (P6 (addB G134 nd 1 (b + siz nv w T0))), pIn (P6 (addB G134 nd 1 (b + siz nv w T0))), pBr (P6 (addB G134 nd 1 (b + siz nv w T0))), pSt (P6 (addB G134 nd 1 (b + siz nv w T0))))) A135 tx hR188 htp 58 (by omega) (by omega) a8) (cwV 1 hC.1.2.2.2.2 gX8_readBraces_X8_goesOn rfl rfl rfl (by decide +kernel) ⟨show 1 + 1 ≤ 12 + 3 * nv by omega, show 8 + (2 + 11) + (20) ≤ 500 + 200 * nv by omega⟩) rfl rfl (Nat.le_of_ble_eq_true rfl) dX8_readBraces_85 ⟨Nat.le_of_ble_eq_true rfl, Nat.le_of_ble_eq_true rfl⟩ (fun r189 hi190 h191 hp192 => ?_)
                                            obtain ⟨er193, ei194, fr195, hR196⟩ := hp192
                                            replace ei194 := ei194.symm
                                            subst ei194
                                            subst er193
                                            obtain ⟨y197_0, y197_1, y197_2, y197_3, y197_4, y197_5, y197_6, y197_7, y197_8, y197_9, y197_10, y197_11⟩ := id hR196
                                            refine ax_if_ne (tgt := 93) hC dX8_readBraces_88 (by decide) (fun c198 => ?_) (fun c198 => ?_)
                                            · refine ax_aload_n hC 3 dX8_readBraces_93 rfl rfl ?_
                                              refine ax_iload_n hC 4 dX8_readBraces_94 rfl rfl ?_
                                              refine ax_iload_n hC 5 dX8_readBraces_95 rfl rfl ?_
                                              refine ax_iconst (v := 1) hC dX8_readBraces_96 (by decide) ?_
                                              refine ax_iadd hC dX8_readBraces_97 ?_
                                              refine ax_eqi (y := nI (op + 1)) (nI_1 op) ?_
                                              refine ax_iload_n hC 6 dX8_readBraces_98 rfl rfl ?_
                                              have hLp199 : LpsOK ((pK (P6 (addB G134 nd 1 (b + siz nv w T0))), pS (P6 (addB G134 nd 1 (b + siz nv w T0))), pLt (P6 (addB G134 nd 1 (b + siz nv w T0))), pLb (P6 (addB G134 nd 1 (b + siz nv w T0))), pDp (P6 (addB G134 nd 1 (b + siz nv w T0))), pIn (P6 (addB G134 nd 1 (b + siz nv w T0))), pBr (P6 (addB G134 nd 1 (b + siz nv w T0))), pSt (P6 (addB G134 nd 1 (b + siz nv w T0))))) A135 (b + siz nv w T0 + siz nv w T1) k E (nI nd) := hLp126.mono2 (fun i hi9 => ⟨(he137.1 i (by omega)).1, (he137.1 i (by omega)).2.2.1, ha138 i (by omega)⟩) (by omega)
                                              have hEl : (txt nv w k tEnd).length = 1 := tEnd_len nv w k
                                              have hEs : siz nv w tEnd = 1 := tEnd_siz nv w
                                              refine ax_callVi (st := []) hC [.int (nI nd), .int (nI (op + 1)), .int (nI d)] y197_0 rfl (hT w k tEnd E d (op + 1) (nI nd) l D z B lo _ h191 rd tp ln (ap + 3 + (txt nv w k T0).length + 3 + (txt nv w k T1).length + 3) (b + siz nv w T0 + siz nv w T1) ((pK (P6 (addB G134 nd 1 (b + siz nv w T0))), pS (P6 (addB G134 nd 1 (b + siz nv w T0))), pLt (P6 (addB G134 nd 1 (b + siz nv w T0))), pLb (P6 (addB G134 nd 1 (b + siz nv w T0))), pDp (P6 (addB G134 nd 1 (b + siz nv w T0))), pIn (P6 (addB G134 nd 1 (b + siz nv w T0))), pBr (P6 (addB G134 nd 1 (b + siz nv w T0))), pSt (P6 (addB G134 nd 1 (b + siz nv w T0))))) A135 tx hR196 htp okE hLp199 (tEnd_tx nv w k a9) (by omega) (by omega) (by omega) (by omega)) (cwV 3 hC.1.2.2.2.2 gX8_readBraces_X8_readTalk rfl rfl rfl (by decide +kernel) ⟨show 10 + 3 * nv + 1 ≤ 12 + 3 * nv by omega, show 8 + (8 + 11) + (400 + 200 * nv) ≤ 500 + 200 * nv by omega⟩) rfl rfl (Nat.le_of_ble_eq_true rfl) dX8_readBraces_99 ⟨Nat.le_of_ble_eq_true rfl, Nat.le_of_ble_eq_true rfl⟩ (fun r200 hi201 h202 hp203 => ?_)
                                              obtain ⟨er204, ei205, fr206, G207, A208, hR209, he210, ha211, ht212⟩ := hp203
                                              replace ei205 := ei205.symm
                                              subst ei205
                                              subst er204
                                              obtain ⟨y213_0, y213_1, y213_2, y213_3, y213_4, y213_5, y213_6, y213_7, y213_8, y213_9, y213_10, y213_11⟩ := id hR209
                                              have hR214 := hR209
                                              rw [hEl, hEs] at hR214
                                              obtain ⟨y215_0, y215_1, y215_2, y215_3, y215_4, y215_5, y215_6, y215_7, y215_8, y215_9, y215_10, y215_11⟩ := id hR214
                                              refine ax_istore hC [(6, .int (nI (b + siz nv w T0 + siz nv w T1))), (5, .int 99), (4, .int 3), (0, .ref rd), (1, .int (nI nd)), (2, .int (nI op)), (3, .int (nI d))] dX8_readBraces_102 (by decide) rfl ?_
                                              refine ax_iload hC 0 dX8_readBraces_104 rfl ?_
                                              refine ax_if_ge (tgt := 111) hC dX8_readBraces_106 (by decide) (fun c216 => ?_) (fun c216 => ?_)
                                              · refine ax_aload_n hC 3 dX8_readBraces_111 rfl rfl ?_
                                                refine ax_iload_n hC 4 dX8_readBraces_112 rfl rfl ?_
                                                refine ax_iload hC 1 dX8_readBraces_113 rfl ?_
                                                refine ax_bipush (v := 97) hC dX8_readBraces_115 (by decide) ?_
                                                refine ax_isub hC dX8_readBraces_117 ?_
                                                refine ax_eqi (y := 2) (by decide) ?_
                                                refine ax_iload hC 0 dX8_readBraces_118 rfl ?_
                                                have hl217 : pLb (P6 G207) nd = nI (2 ^ 2 - 1) := (he210.1 nd (by omega)).2.2.2.1.trans (upd_self _ _ _)
                                                refine ax_callVv (st := []) hC [.int (nI nd), .int 2, .int (nI (b + siz nv w T0 + siz nv w T1))] y215_0 rfl (c_X8_addBranch l D z B lo _ h202 rd tp ln (ap + 3 + (txt nv w k T0).length + 3 + (txt nv w k T1).length + 4) (b + siz nv w T0 + siz nv w T1 + 1) G207 A208 tx nd 2 (b + siz nv w T0 + siz nv w T1) hR214 htp (by omega) (by decide) hl217) (cwV 3 hC.1.2.2.2.2 gX8_readBraces_X8_addBranch rfl rfl rfl (by decide +kernel) ⟨show 1 + 1 ≤ 12 + 3 * nv by omega, show 8 + (9 + 11) + (40) ≤ 500 + 200 * nv by omega⟩) rfl rfl (Nat.le_of_ble_eq_true rfl) dX8_readBraces_120 ⟨Nat.le_of_ble_eq_true rfl, Nat.le_of_ble_eq_true rfl⟩ (fun hi218 h219 hp220 => ?_)
                                                obtain ⟨ei221, fr222, hR223⟩ := hp220
                                                replace ei221 := ei221.symm
                                                subst ei221
                                                obtain ⟨y224_0, y224_1, y224_2, y224_3, y224_4, y224_5, y224_6, y224_7, y224_8, y224_9, y224_10, y224_11⟩ := id hR223
                                                refine ax_aload_n hC 3 dX8_readBraces_123 rfl rfl ?_
                                                refine ax_bipush (v := 125) hC dX8_readBraces_124 (by decide) ?_
                                                refine ax_callVi (st := []) hC [.int 125] y224_0 rfl (c_X8_goesOn_y l D z B lo _ h219 rd tp ln (ap + 3 + (txt nv w k T0).length + 3 + (txt nv w k T1).length + 4) (b + siz nv w T0 + siz nv w T1 + 1) ((addB G207 nd 2 (b + siz nv w T0 + siz nv w T1))) A208 tx hR223 htp 125 (by omega) (by omega) a10) (cwV 1 hC.1.2.2.2.2 gX8_readBraces_X8_goesOn rfl rfl rfl (by decide +kernel) ⟨show 1 + 1 ≤ 12 + 3 * nv by omega, show 8 + (2 + 11) + (20) ≤ 500 + 200 * nv by omega⟩) rfl rfl (Nat.le_of_ble_eq_true rfl) dX8_readBraces_126 ⟨Nat.le_of_ble_eq_true rfl, Nat.le_of_ble_eq_true rfl⟩ (fun r225 hi226 h227 hp228 => ?_)
                                                obtain ⟨er229, ei230, fr231, hR232⟩ := hp228
                                                replace ei230 := ei230.symm
                                                subst ei230
                                                subst er229
                                                obtain ⟨y233_0, y233_1, y233_2, y233_3, y233_4, y233_5, y233_6, y233_7, y233_8, y233_9, y233_10, y233_11⟩ := id hR232
                                                refine ax_if_eq (tgt := 134) hC dX8_readBraces_129 (by decide) (fun c234 => ?_) (fun c234 => ?_)
                                                · exact absurd c234 (by decide)
                                                · refine ax_iconst (v := 1) hC dX8_readBraces_132 (by decide) ?_
                                                  refine ax_zret hC hr hlocks dX8_readBraces_133 (by decide) ?_
                                                  exact ⟨rfl, rfl, fun q hq => ((fr231 q (by omega)).trans ((fr222 q (by omega)).trans ((fr206 q (by omega)).trans ((fr195 q (by omega)).trans ((f176 q (by omega)).trans ((fr160 q (by omega)).trans ((fr147 q (by omega)).trans ((fr133 q (by omega)).trans ((fr122 q (by omega)).trans ((f103 q (by omega)).trans ((fr87 q (by omega)).trans ((fr74 q (by omega)).trans ((fr60 q (by omega)).trans ((fr50 q (by omega)).trans ((f31 q (by omega)).trans (f7 q (by omega))))))))))))))))), _, _, hR232, brc3 hnd he64 ha65 ht66 he137 ha138 ht139 he210 ha211 (tEnd_at ht212)⟩
                                              · exact absurd (nI_pos' (by omega)) c216
                                            · exact absurd c198 (by decide)
                                          · exact absurd c173 (by decide)
                                    · exact absurd c163 (by decide)
                                · exact absurd c152 (by decide)
                              · exact absurd (nI_pos' (by omega)) c141
                            · exact absurd c125 (by decide)
                          · exact absurd c100 (by decide)
                    · exact absurd c90 (by decide)
                · exact absurd c79 (by decide)
              · exact absurd (nI_pos' (by omega)) c68
            · exact absurd c53 (by decide)
          · exact absurd c28 (by decide)
    · exact absurd (nI_lt (a := op) (b := 8) (by omega) (by decide)) c4
