abbrev rmX8_readHead : Room := { frames := 2, cells := 0, slots := 0, locals := 47 }
set_option maxRecDepth 100000 in
set_option maxHeartbeats 4000000 in
theorem c_X8_readHead_n (l : Launch) (D : va_G) (z : Nat → ClassId) (B : Heap) (lo hi : Nat) (h : Nat → Option va_E) (rd tp ln ap b : Nat) (G : RT) (Ar tx : Nat → Int32) (v0 : Int32) (d kk : Nat) (hR : RdS z h rd tp ln ap b G Ar tx) (htp : tp < rd) (hb : b < 60) (hat : ap < ln) (hln : ln ≤ 200) (hkk : kk < 6) (hkb : kbs (tx ap) = nI kk) : Met l yX8_readHead wsX8_readHead rmX8_readHead (KP D vwCl B lo hi h (ty6 z) [.ref rd, .int v0, .int (nI d)]) (KQi D vwCl B lo (ty6 z) (fun r hi' h' => r = nI b ∧ hi' = hi ∧ (∀ q, (q < rd ∨ rd + 11 ≤ q) → h' q = h q) ∧ RdS z h' rd tp ln (ap + 1) (b + 1) (upd (pK (P6 G)) b (nI kk), upd (pS (P6 G)) b 0, upd (pLt (P6 G)) b 0, upd (pLb (P6 G)) b 0, upd (pDp (P6 G)) b (nI d), upd (pIn (P6 G)) b (-1), upd (pBr (P6 G)) (6 * b) (-1), pSt (P6 G)) (upd Ar b v0) tx)) 0 0 (fun q => lo ≤ q) := by
  obtain ⟨q0, q1, q2, q3, q4, q5, q6, q7, q8, q9, q10, q11⟩ := id hR
  refine ax_met (by decide) rfl (Nat.le_of_ble_eq_true rfl) (L0 := [(0, .ref rd), (1, .int v0), (2, .int (nI d))]) rfl ?_
  intro p e s m args below meth c hC hr hlocks hnm hargs
  have iX7 : ∀ w ∈ u_ws RX7 TX7 9, w ∈ wsX8_readHead := by decide +kernel
  have iX8 : ∀ w ∈ u_ws RX8 TX8 5, w ∈ wsX8_readHead := by decide +kernel
  refine ax_aload_n hC 0 dX8_readHead_0 rfl rfl ?_
  refine ax_callVp (st := []) hC [] q0 rfl (c_X8_sign l D z B lo _ h rd tp ln ap b G Ar tx hR htp (by omega) (by omega)) (cwV 0 hC.1.2.2.2.2 gX8_readHead_X8_sign rfl rfl rfl (by decide +kernel) ⟨Nat.le_of_ble_eq_true rfl, Nat.le_of_ble_eq_true rfl⟩) rfl rfl (Nat.le_of_ble_eq_true rfl) dX8_readHead_1 ⟨Nat.le_of_ble_eq_true rfl, Nat.le_of_ble_eq_true rfl⟩ (fun r1 er2 => ?_)
  subst er2
  refine ax_istore_n hC [(3, .int (tx ap)), (0, .ref rd), (1, .int v0), (2, .int (nI d))] dX8_readHead_4 rfl (by decide) rfl ?_
  refine ax_iload_n hC 0 dX8_readHead_5 rfl rfl ?_
  refine ax_callSp (st := []) hC [.int (tx ap)] (c_X8_kindBySign l D z B lo _ h (tx ap)) (va_cwS 1 hC.1.2.2.2.2 gX8_readHead_X8_kindBySign rfl rfl rfl (by decide +kernel) ⟨Nat.le_of_ble_eq_true rfl, Nat.le_of_ble_eq_true rfl⟩) rfl rfl (Nat.le_of_ble_eq_true rfl) dX8_readHead_6 ⟨Nat.le_of_ble_eq_true rfl, Nat.le_of_ble_eq_true rfl⟩ (fun r3 er4 => ?_)
  subst er4
  refine ax_eqi (y := nI kk) (hkb) ?_
  refine ax_istore hC [(4, .int (nI kk)), (3, .int (tx ap)), (0, .ref rd), (1, .int v0), (2, .int (nI d))] dX8_readHead_9 (by decide) rfl ?_
  refine ax_aload_n hC 2 dX8_readHead_11 rfl rfl ?_
  refine ax_getf (v := .ref (rd + 1)) hC q0 iX8 rfl 0 (by decide) (by decide +kernel) rfl rfl dX8_readHead_12 ?_
  refine ax_getf (v := .int (nI b)) hC q1 iX7 rfl 0 (by decide) (by decide +kernel) rfl rfl dX8_readHead_15 ?_
  refine ax_istore hC [(5, .int (nI b)), (4, .int (nI kk)), (3, .int (tx ap)), (0, .ref rd), (1, .int v0), (2, .int (nI d))] dX8_readHead_18 (by decide) rfl ?_
  refine ax_iload hC 1 dX8_readHead_20 rfl ?_
  refine ax_if_lt (tgt := 37) hC dX8_readHead_22 (by decide) (fun c5 => ?_) (fun c5 => ?_)
  · exact absurd c5 (nI_pos (by omega))
  · refine ax_iload hC 0 dX8_readHead_25 rfl ?_
    refine ax_if_lt (tgt := 37) hC dX8_readHead_27 (by decide) (fun c6 => ?_) (fun c6 => ?_)
    · exact absurd c6 (nI_pos (by omega))
    · refine ax_iload hC 0 dX8_readHead_30 rfl ?_
      refine ax_bipush (v := 60) hC dX8_readHead_32 (by decide) ?_
      refine ax_icmp_lt (tgt := 39) hC dX8_readHead_34 (by decide) (fun c7 => ?_) (fun c7 => ?_)
      · refine ax_iload hC 1 dX8_readHead_39 rfl ?_
        refine ax_bipush (v := 6) hC dX8_readHead_41 (by decide) ?_
        refine ax_icmp_ne (tgt := 55) hC dX8_readHead_43 (by decide) (fun c8 => ?_) (fun c8 => ?_)
        · refine ax_iconst (v := (-1)) hC dX8_readHead_55 (by decide) ?_
          refine ax_istore hC [(6, .int (-1)), (5, .int (nI b)), (4, .int (nI kk)), (3, .int (tx ap)), (0, .ref rd), (1, .int v0), (2, .int (nI d))] dX8_readHead_56 (by decide) rfl ?_
          refine ax_iload hC 2 dX8_readHead_58 rfl ?_
          refine ax_bipush (v := 6) hC dX8_readHead_60 (by decide) ?_
          refine ax_icmp_ne (tgt := 72) hC dX8_readHead_62 (by decide) (fun c9 => ?_) (fun c9 => ?_)
          · refine ax_aload_n hC 4 dX8_readHead_72 rfl rfl ?_
            refine ax_getf (v := .ref (rd + 1)) hC q0 iX8 rfl 0 (by decide) (by decide +kernel) rfl rfl dX8_readHead_73 ?_
            refine ax_getf (v := .ref (rd + 2)) hC q1 iX7 rfl 1 (by decide) (by decide +kernel) rfl rfl dX8_readHead_76 ?_
            refine ax_iload hC 1 dX8_readHead_79 rfl ?_
            refine ax_iload hC 2 dX8_readHead_81 rfl ?_
            have b10 : vp_in (nI b) 60 := vp_in_nI (by omega) (by omega)
            refine ax_iast hC q2 1 rfl b10 dX8_readHead_83 (fun h11 e12 f13 => ?_)
            rw [nI_clamp (by omega)] at e12
            have x14 : h11 rd = some (.inr (10, [.ref (rd + 1), .ref (rd + 10), .ref tp, .int (nI ln), .int (nI ap)])) := (f13 _ (by omega)).trans q0
            have x15 : h11 (rd + 1) = some (.inr (9, [.int (nI b), .ref (rd + 2), .ref (rd + 3), .ref (rd + 4), .ref (rd + 5), .ref (rd + 6), .ref (rd + 7), .ref (rd + 8), .ref (rd + 9)])) := (f13 _ (by omega)).trans q1
            have x16 : h11 (rd + 3) = some (.inl (z 1, 60, .inl (pS (P6 G)))) := (f13 _ (by omega)).trans q3
            have x17 : h11 (rd + 4) = some (.inl (z 1, 60, .inl (pLt (P6 G)))) := (f13 _ (by omega)).trans q4
            have x18 : h11 (rd + 5) = some (.inl (z 1, 60, .inl (pLb (P6 G)))) := (f13 _ (by omega)).trans q5
            have x19 : h11 (rd + 6) = some (.inl (z 1, 60, .inl (pDp (P6 G)))) := (f13 _ (by omega)).trans q6
            have x20 : h11 (rd + 7) = some (.inl (z 1, 60, .inl (pIn (P6 G)))) := (f13 _ (by omega)).trans q7
            have x21 : h11 (rd + 8) = some (.inl (z 1, 360, .inl (pBr (P6 G)))) := (f13 _ (by omega)).trans q8
            have x22 : h11 (rd + 9) = some (.inl (z 1, 60, .inl (pSt (P6 G)))) := (f13 _ (by omega)).trans q9
            have x23 : h11 (rd + 10) = some (.inl (z 1, 60, .inl (Ar))) := (f13 _ (by omega)).trans q10
            have x24 : h11 tp = some (.inl (z 1, 200, .inl (tx))) := (f13 _ (by omega)).trans q11
            refine ax_aload_n hC 4 dX8_readHead_84 rfl rfl ?_
            refine ax_getf (v := .ref (rd + 1)) hC x14 iX8 rfl 0 (by decide) (by decide +kernel) rfl rfl dX8_readHead_85 ?_
            refine ax_getf (v := .ref (rd + 3)) hC x15 iX7 rfl 2 (by decide) (by decide +kernel) rfl rfl dX8_readHead_88 ?_
            refine ax_iload hC 1 dX8_readHead_91 rfl ?_
            refine ax_iconst (v := 0) hC dX8_readHead_93 (by decide) ?_
            have b25 : vp_in (nI b) 60 := vp_in_nI (by omega) (by omega)
            refine ax_iast hC x16 1 rfl b25 dX8_readHead_94 (fun h26 e27 f28 => ?_)
            rw [nI_clamp (by omega)] at e27
            have x29 : h26 rd = some (.inr (10, [.ref (rd + 1), .ref (rd + 10), .ref tp, .int (nI ln), .int (nI ap)])) := (f28 _ (by omega)).trans x14
            have x30 : h26 (rd + 1) = some (.inr (9, [.int (nI b), .ref (rd + 2), .ref (rd + 3), .ref (rd + 4), .ref (rd + 5), .ref (rd + 6), .ref (rd + 7), .ref (rd + 8), .ref (rd + 9)])) := (f28 _ (by omega)).trans x15
            have x31 : h26 (rd + 4) = some (.inl (z 1, 60, .inl (pLt (P6 G)))) := (f28 _ (by omega)).trans x17
            have x32 : h26 (rd + 5) = some (.inl (z 1, 60, .inl (pLb (P6 G)))) := (f28 _ (by omega)).trans x18
            have x33 : h26 (rd + 6) = some (.inl (z 1, 60, .inl (pDp (P6 G)))) := (f28 _ (by omega)).trans x19
            have x34 : h26 (rd + 7) = some (.inl (z 1, 60, .inl (pIn (P6 G)))) := (f28 _ (by omega)).trans x20
            have x35 : h26 (rd + 8) = some (.inl (z 1, 360, .inl (pBr (P6 G)))) := (f28 _ (by omega)).trans x21
            have x36 : h26 (rd + 9) = some (.inl (z 1, 60, .inl (pSt (P6 G)))) := (f28 _ (by omega)).trans x22
            have x37 : h26 (rd + 10) = some (.inl (z 1, 60, .inl (Ar))) := (f28 _ (by omega)).trans x23
            have x38 : h26 tp = some (.inl (z 1, 200, .inl (tx))) := (f28 _ (by omega)).trans x24
            have x39 : h26 (rd + 2) = some (.inl (z 1, 60, .inl (upd (pK (P6 G)) b (nI kk)))) := (f28 _ (by omega)).trans e12
            refine ax_aload_n hC 4 dX8_readHead_95 rfl rfl ?_
            refine ax_getf (v := .ref (rd + 1)) hC x29 iX8 rfl 0 (by decide) (by decide +kernel) rfl rfl dX8_readHead_96 ?_
            refine ax_getf (v := .ref (rd + 4)) hC x30 iX7 rfl 3 (by decide) (by decide +kernel) rfl rfl dX8_readHead_99 ?_
            refine ax_iload hC 1 dX8_readHead_102 rfl ?_
            refine ax_iload hC 2 dX8_readHead_104 rfl ?_
            refine ax_bipush (v := 6) hC dX8_readHead_106 (by decide) ?_
            refine ax_icmp_ne (tgt := 115) hC dX8_readHead_108 (by decide) (fun c40 => ?_) (fun c40 => ?_)
            · refine ax_iconst (v := 0) hC dX8_readHead_115 (by decide) ?_
              have b41 : vp_in (nI b) 60 := vp_in_nI (by omega) (by omega)
              refine ax_iast hC x31 1 rfl b41 dX8_readHead_116 (fun h42 e43 f44 => ?_)
              rw [nI_clamp (by omega)] at e43
              have x45 : h42 rd = some (.inr (10, [.ref (rd + 1), .ref (rd + 10), .ref tp, .int (nI ln), .int (nI ap)])) := (f44 _ (by omega)).trans x29
              have x46 : h42 (rd + 1) = some (.inr (9, [.int (nI b), .ref (rd + 2), .ref (rd + 3), .ref (rd + 4), .ref (rd + 5), .ref (rd + 6), .ref (rd + 7), .ref (rd + 8), .ref (rd + 9)])) := (f44 _ (by omega)).trans x30
              have x47 : h42 (rd + 5) = some (.inl (z 1, 60, .inl (pLb (P6 G)))) := (f44 _ (by omega)).trans x32
              have x48 : h42 (rd + 6) = some (.inl (z 1, 60, .inl (pDp (P6 G)))) := (f44 _ (by omega)).trans x33
              have x49 : h42 (rd + 7) = some (.inl (z 1, 60, .inl (pIn (P6 G)))) := (f44 _ (by omega)).trans x34
              have x50 : h42 (rd + 8) = some (.inl (z 1, 360, .inl (pBr (P6 G)))) := (f44 _ (by omega)).trans x35
              have x51 : h42 (rd + 9) = some (.inl (z 1, 60, .inl (pSt (P6 G)))) := (f44 _ (by omega)).trans x36
              have x52 : h42 (rd + 10) = some (.inl (z 1, 60, .inl (Ar))) := (f44 _ (by omega)).trans x37
              have x53 : h42 tp = some (.inl (z 1, 200, .inl (tx))) := (f44 _ (by omega)).trans x38
              have x54 : h42 (rd + 2) = some (.inl (z 1, 60, .inl (upd (pK (P6 G)) b (nI kk)))) := (f44 _ (by omega)).trans x39
              have x55 : h42 (rd + 3) = some (.inl (z 1, 60, .inl (upd (pS (P6 G)) b 0))) := (f44 _ (by omega)).trans e27
              refine ax_aload_n hC 4 dX8_readHead_117 rfl rfl ?_
              refine ax_getf (v := .ref (rd + 1)) hC x45 iX8 rfl 0 (by decide) (by decide +kernel) rfl rfl dX8_readHead_118 ?_
              refine ax_getf (v := .ref (rd + 5)) hC x46 iX7 rfl 4 (by decide) (by decide +kernel) rfl rfl dX8_readHead_121 ?_
              refine ax_iload hC 1 dX8_readHead_124 rfl ?_
              refine ax_iconst (v := 0) hC dX8_readHead_126 (by decide) ?_
              have b56 : vp_in (nI b) 60 := vp_in_nI (by omega) (by omega)
              refine ax_iast hC x47 1 rfl b56 dX8_readHead_127 (fun h57 e58 f59 => ?_)
              rw [nI_clamp (by omega)] at e58
              have x60 : h57 rd = some (.inr (10, [.ref (rd + 1), .ref (rd + 10), .ref tp, .int (nI ln), .int (nI ap)])) := (f59 _ (by omega)).trans x45
              have x61 : h57 (rd + 1) = some (.inr (9, [.int (nI b), .ref (rd + 2), .ref (rd + 3), .ref (rd + 4), .ref (rd + 5), .ref (rd + 6), .ref (rd + 7), .ref (rd + 8), .ref (rd + 9)])) := (f59 _ (by omega)).trans x46
              have x62 : h57 (rd + 6) = some (.inl (z 1, 60, .inl (pDp (P6 G)))) := (f59 _ (by omega)).trans x48
              have x63 : h57 (rd + 7) = some (.inl (z 1, 60, .inl (pIn (P6 G)))) := (f59 _ (by omega)).trans x49
              have x64 : h57 (rd + 8) = some (.inl (z 1, 360, .inl (pBr (P6 G)))) := (f59 _ (by omega)).trans x50
              have x65 : h57 (rd + 9) = some (.inl (z 1, 60, .inl (pSt (P6 G)))) := (f59 _ (by omega)).trans x51
              have x66 : h57 (rd + 10) = some (.inl (z 1, 60, .inl (Ar))) := (f59 _ (by omega)).trans x52
              have x67 : h57 tp = some (.inl (z 1, 200, .inl (tx))) := (f59 _ (by omega)).trans x53
              have x68 : h57 (rd + 2) = some (.inl (z 1, 60, .inl (upd (pK (P6 G)) b (nI kk)))) := (f59 _ (by omega)).trans x54
              have x69 : h57 (rd + 3) = some (.inl (z 1, 60, .inl (upd (pS (P6 G)) b 0))) := (f59 _ (by omega)).trans x55
              have x70 : h57 (rd + 4) = some (.inl (z 1, 60, .inl (upd (pLt (P6 G)) b 0))) := (f59 _ (by omega)).trans e43
              refine ax_aload_n hC 4 dX8_readHead_128 rfl rfl ?_
              refine ax_getf (v := .ref (rd + 1)) hC x60 iX8 rfl 0 (by decide) (by decide +kernel) rfl rfl dX8_readHead_129 ?_
              refine ax_getf (v := .ref (rd + 6)) hC x61 iX7 rfl 5 (by decide) (by decide +kernel) rfl rfl dX8_readHead_132 ?_
              refine ax_iload hC 1 dX8_readHead_135 rfl ?_
              refine ax_iload_n hC 6 dX8_readHead_137 rfl rfl ?_
              have b71 : vp_in (nI b) 60 := vp_in_nI (by omega) (by omega)
              refine ax_iast hC x62 1 rfl b71 dX8_readHead_138 (fun h72 e73 f74 => ?_)
              rw [nI_clamp (by omega)] at e73
              have x75 : h72 rd = some (.inr (10, [.ref (rd + 1), .ref (rd + 10), .ref tp, .int (nI ln), .int (nI ap)])) := (f74 _ (by omega)).trans x60
              have x76 : h72 (rd + 1) = some (.inr (9, [.int (nI b), .ref (rd + 2), .ref (rd + 3), .ref (rd + 4), .ref (rd + 5), .ref (rd + 6), .ref (rd + 7), .ref (rd + 8), .ref (rd + 9)])) := (f74 _ (by omega)).trans x61
              have x77 : h72 (rd + 7) = some (.inl (z 1, 60, .inl (pIn (P6 G)))) := (f74 _ (by omega)).trans x63
              have x78 : h72 (rd + 8) = some (.inl (z 1, 360, .inl (pBr (P6 G)))) := (f74 _ (by omega)).trans x64
              have x79 : h72 (rd + 9) = some (.inl (z 1, 60, .inl (pSt (P6 G)))) := (f74 _ (by omega)).trans x65
              have x80 : h72 (rd + 10) = some (.inl (z 1, 60, .inl (Ar))) := (f74 _ (by omega)).trans x66
              have x81 : h72 tp = some (.inl (z 1, 200, .inl (tx))) := (f74 _ (by omega)).trans x67
              have x82 : h72 (rd + 2) = some (.inl (z 1, 60, .inl (upd (pK (P6 G)) b (nI kk)))) := (f74 _ (by omega)).trans x68
              have x83 : h72 (rd + 3) = some (.inl (z 1, 60, .inl (upd (pS (P6 G)) b 0))) := (f74 _ (by omega)).trans x69
              have x84 : h72 (rd + 4) = some (.inl (z 1, 60, .inl (upd (pLt (P6 G)) b 0))) := (f74 _ (by omega)).trans x70
              have x85 : h72 (rd + 5) = some (.inl (z 1, 60, .inl (upd (pLb (P6 G)) b 0))) := (f74 _ (by omega)).trans e58
              refine ax_aload_n hC 4 dX8_readHead_139 rfl rfl ?_
              refine ax_getf (v := .ref (rd + 1)) hC x75 iX8 rfl 0 (by decide) (by decide +kernel) rfl rfl dX8_readHead_140 ?_
              refine ax_getf (v := .ref (rd + 7)) hC x76 iX7 rfl 6 (by decide) (by decide +kernel) rfl rfl dX8_readHead_143 ?_
              refine ax_iload hC 1 dX8_readHead_146 rfl ?_
              refine ax_iconst (v := (-1)) hC dX8_readHead_148 (by decide) ?_
              have b86 : vp_in (nI b) 60 := vp_in_nI (by omega) (by omega)
              refine ax_iast hC x77 1 rfl b86 dX8_readHead_149 (fun h87 e88 f89 => ?_)
              rw [nI_clamp (by omega)] at e88
              have x90 : h87 rd = some (.inr (10, [.ref (rd + 1), .ref (rd + 10), .ref tp, .int (nI ln), .int (nI ap)])) := (f89 _ (by omega)).trans x75
              have x91 : h87 (rd + 1) = some (.inr (9, [.int (nI b), .ref (rd + 2), .ref (rd + 3), .ref (rd + 4), .ref (rd + 5), .ref (rd + 6), .ref (rd + 7), .ref (rd + 8), .ref (rd + 9)])) := (f89 _ (by omega)).trans x76
              have x92 : h87 (rd + 8) = some (.inl (z 1, 360, .inl (pBr (P6 G)))) := (f89 _ (by omega)).trans x78
              have x93 : h87 (rd + 9) = some (.inl (z 1, 60, .inl (pSt (P6 G)))) := (f89 _ (by omega)).trans x79
              have x94 : h87 (rd + 10) = some (.inl (z 1, 60, .inl (Ar))) := (f89 _ (by omega)).trans x80
              have x95 : h87 tp = some (.inl (z 1, 200, .inl (tx))) := (f89 _ (by omega)).trans x81
              have x96 : h87 (rd + 2) = some (.inl (z 1, 60, .inl (upd (pK (P6 G)) b (nI kk)))) := (f89 _ (by omega)).trans x82
              have x97 : h87 (rd + 3) = some (.inl (z 1, 60, .inl (upd (pS (P6 G)) b 0))) := (f89 _ (by omega)).trans x83
              have x98 : h87 (rd + 4) = some (.inl (z 1, 60, .inl (upd (pLt (P6 G)) b 0))) := (f89 _ (by omega)).trans x84
              have x99 : h87 (rd + 5) = some (.inl (z 1, 60, .inl (upd (pLb (P6 G)) b 0))) := (f89 _ (by omega)).trans x85
              have x100 : h87 (rd + 6) = some (.inl (z 1, 60, .inl (upd (pDp (P6 G)) b (nI d)))) := (f89 _ (by omega)).trans e73
              refine ax_aload_n hC 4 dX8_readHead_150 rfl rfl ?_
              refine ax_getf (v := .ref (rd + 1)) hC x90 iX8 rfl 0 (by decide) (by decide +kernel) rfl rfl dX8_readHead_151 ?_
              refine ax_getf (v := .ref (rd + 8)) hC x91 iX7 rfl 7 (by decide) (by decide +kernel) rfl rfl dX8_readHead_154 ?_
              refine ax_iload hC 1 dX8_readHead_157 rfl ?_
              refine ax_bipush (v := 6) hC dX8_readHead_159 (by decide) ?_
              refine ax_imul hC dX8_readHead_161 ?_
              refine ax_eqi (y := nI (6 * b)) (by rw [Nat.mul_comm]; exact nI_mul' b 6) ?_
              refine ax_iload hC 0 dX8_readHead_162 rfl ?_
              have b101 : vp_in (nI (6 * b)) 360 := vp_in_nI (by omega) (by omega)
              refine ax_iast hC x92 1 rfl b101 dX8_readHead_164 (fun h102 e103 f104 => ?_)
              rw [nI_clamp (by omega)] at e103
              have x105 : h102 rd = some (.inr (10, [.ref (rd + 1), .ref (rd + 10), .ref tp, .int (nI ln), .int (nI ap)])) := (f104 _ (by omega)).trans x90
              have x106 : h102 (rd + 1) = some (.inr (9, [.int (nI b), .ref (rd + 2), .ref (rd + 3), .ref (rd + 4), .ref (rd + 5), .ref (rd + 6), .ref (rd + 7), .ref (rd + 8), .ref (rd + 9)])) := (f104 _ (by omega)).trans x91
              have x107 : h102 (rd + 9) = some (.inl (z 1, 60, .inl (pSt (P6 G)))) := (f104 _ (by omega)).trans x93
              have x108 : h102 (rd + 10) = some (.inl (z 1, 60, .inl (Ar))) := (f104 _ (by omega)).trans x94
              have x109 : h102 tp = some (.inl (z 1, 200, .inl (tx))) := (f104 _ (by omega)).trans x95
              have x110 : h102 (rd + 2) = some (.inl (z 1, 60, .inl (upd (pK (P6 G)) b (nI kk)))) := (f104 _ (by omega)).trans x96
              have x111 : h102 (rd + 3) = some (.inl (z 1, 60, .inl (upd (pS (P6 G)) b 0))) := (f104 _ (by omega)).trans x97
              have x112 : h102 (rd + 4) = some (.inl (z 1, 60, .inl (upd (pLt (P6 G)) b 0))) := (f104 _ (by omega)).trans x98
              have x113 : h102 (rd + 5) = some (.inl (z 1, 60, .inl (upd (pLb (P6 G)) b 0))) := (f104 _ (by omega)).trans x99
              have x114 : h102 (rd + 6) = some (.inl (z 1, 60, .inl (upd (pDp (P6 G)) b (nI d)))) := (f104 _ (by omega)).trans x100
              have x115 : h102 (rd + 7) = some (.inl (z 1, 60, .inl (upd (pIn (P6 G)) b (-1)))) := (f104 _ (by omega)).trans e88
              refine ax_aload_n hC 4 dX8_readHead_165 rfl rfl ?_
              refine ax_getf (v := .ref (rd + 10)) hC x105 iX8 rfl 1 (by decide) (by decide +kernel) rfl rfl dX8_readHead_166 ?_
              refine ax_iload hC 1 dX8_readHead_169 rfl ?_
              refine ax_iload_n hC 5 dX8_readHead_171 rfl rfl ?_
              have b116 : vp_in (nI b) 60 := vp_in_nI (by omega) (by omega)
              refine ax_iast hC x108 1 rfl b116 dX8_readHead_172 (fun h117 e118 f119 => ?_)
              rw [nI_clamp (by omega)] at e118
              have x120 : h117 rd = some (.inr (10, [.ref (rd + 1), .ref (rd + 10), .ref tp, .int (nI ln), .int (nI ap)])) := (f119 _ (by omega)).trans x105
              have x121 : h117 (rd + 1) = some (.inr (9, [.int (nI b), .ref (rd + 2), .ref (rd + 3), .ref (rd + 4), .ref (rd + 5), .ref (rd + 6), .ref (rd + 7), .ref (rd + 8), .ref (rd + 9)])) := (f119 _ (by omega)).trans x106
              have x122 : h117 (rd + 9) = some (.inl (z 1, 60, .inl (pSt (P6 G)))) := (f119 _ (by omega)).trans x107
              have x123 : h117 tp = some (.inl (z 1, 200, .inl (tx))) := (f119 _ (by omega)).trans x109
              have x124 : h117 (rd + 2) = some (.inl (z 1, 60, .inl (upd (pK (P6 G)) b (nI kk)))) := (f119 _ (by omega)).trans x110
              have x125 : h117 (rd + 3) = some (.inl (z 1, 60, .inl (upd (pS (P6 G)) b 0))) := (f119 _ (by omega)).trans x111
              have x126 : h117 (rd + 4) = some (.inl (z 1, 60, .inl (upd (pLt (P6 G)) b 0))) := (f119 _ (by omega)).trans x112
              have x127 : h117 (rd + 5) = some (.inl (z 1, 60, .inl (upd (pLb (P6 G)) b 0))) := (f119 _ (by omega)).trans x113
              have x128 : h117 (rd + 6) = some (.inl (z 1, 60, .inl (upd (pDp (P6 G)) b (nI d)))) := (f119 _ (by omega)).trans x114
              have x129 : h117 (rd + 7) = some (.inl (z 1, 60, .inl (upd (pIn (P6 G)) b (-1)))) := (f119 _ (by omega)).trans x115
              have x130 : h117 (rd + 8) = some (.inl (z 1, 360, .inl (upd (pBr (P6 G)) (6 * b) (-1)))) := (f119 _ (by omega)).trans e103
              refine ax_aload_n hC 4 dX8_readHead_173 rfl rfl ?_
              refine ax_getf (v := .ref (rd + 1)) hC x120 iX8 rfl 0 (by decide) (by decide +kernel) rfl rfl dX8_readHead_174 ?_
              refine ax_iload hC 1 dX8_readHead_177 rfl ?_
              refine ax_iconst (v := 1) hC dX8_readHead_179 (by decide) ?_
              refine ax_iadd hC dX8_readHead_180 ?_
              refine ax_eqi (y := nI (b + 1)) (nI_1 b) ?_
              refine ax_putf (v := .int (nI (b + 1))) (ty := .int) hC tyX7 x121 iX7 tyX7_ok nmX7 rfl 0 (by decide) (by decide +kernel) rfl rfl (by decide +kernel) (rfl) rfl (Nat.le_of_ble_eq_true rfl) dX8_readHead_181 (fun h131 e132 f133 => ?_)
              have e132 : h131 (rd + 1) = some (.inr (9, [.int (nI (b + 1)), .ref (rd + 2), .ref (rd + 3), .ref (rd + 4), .ref (rd + 5), .ref (rd + 6), .ref (rd + 7), .ref (rd + 8), .ref (rd + 9)])) := e132
              have x134 : h131 rd = some (.inr (10, [.ref (rd + 1), .ref (rd + 10), .ref tp, .int (nI ln), .int (nI ap)])) := (f133 _ (by omega)).trans x120
              have x135 : h131 (rd + 9) = some (.inl (z 1, 60, .inl (pSt (P6 G)))) := (f133 _ (by omega)).trans x122
              have x136 : h131 tp = some (.inl (z 1, 200, .inl (tx))) := (f133 _ (by omega)).trans x123
              have x137 : h131 (rd + 2) = some (.inl (z 1, 60, .inl (upd (pK (P6 G)) b (nI kk)))) := (f133 _ (by omega)).trans x124
              have x138 : h131 (rd + 3) = some (.inl (z 1, 60, .inl (upd (pS (P6 G)) b 0))) := (f133 _ (by omega)).trans x125
              have x139 : h131 (rd + 4) = some (.inl (z 1, 60, .inl (upd (pLt (P6 G)) b 0))) := (f133 _ (by omega)).trans x126
              have x140 : h131 (rd + 5) = some (.inl (z 1, 60, .inl (upd (pLb (P6 G)) b 0))) := (f133 _ (by omega)).trans x127
              have x141 : h131 (rd + 6) = some (.inl (z 1, 60, .inl (upd (pDp (P6 G)) b (nI d)))) := (f133 _ (by omega)).trans x128
              have x142 : h131 (rd + 7) = some (.inl (z 1, 60, .inl (upd (pIn (P6 G)) b (-1)))) := (f133 _ (by omega)).trans x129
              have x143 : h131 (rd + 8) = some (.inl (z 1, 360, .inl (upd (pBr (P6 G)) (6 * b) (-1)))) := (f133 _ (by omega)).trans x130
              have x144 : h131 (rd + 10) = some (.inl (z 1, 60, .inl (upd Ar b v0))) := (f133 _ (by omega)).trans e118
              refine ax_aload_n hC 4 dX8_readHead_184 rfl rfl ?_
              refine ax_dup hC dX8_readHead_185 rfl ?_
              refine ax_getf (v := .int (nI ap)) hC x134 iX8 rfl 4 (by decide) (by decide +kernel) rfl rfl dX8_readHead_186 ?_
              refine ax_iconst (v := 1) hC dX8_readHead_189 (by decide) ?_
              refine ax_iadd hC dX8_readHead_190 ?_
              refine ax_eqi (y := nI (ap + 1)) (nI_1 ap) ?_
              refine ax_putf (v := .int (nI (ap + 1))) (ty := .int) hC tyX8 x134 iX8 tyX8_ok nmX8 rfl 4 (by decide) (by decide +kernel) rfl rfl (by decide +kernel) (rfl) rfl (Nat.le_of_ble_eq_true rfl) dX8_readHead_191 (fun h145 e146 f147 => ?_)
              have e146 : h145 rd = some (.inr (10, [.ref (rd + 1), .ref (rd + 10), .ref tp, .int (nI ln), .int (nI (ap + 1))])) := e146
              have x148 : h145 (rd + 9) = some (.inl (z 1, 60, .inl (pSt (P6 G)))) := (f147 _ (by omega)).trans x135
              have x149 : h145 tp = some (.inl (z 1, 200, .inl (tx))) := (f147 _ (by omega)).trans x136
              have x150 : h145 (rd + 2) = some (.inl (z 1, 60, .inl (upd (pK (P6 G)) b (nI kk)))) := (f147 _ (by omega)).trans x137
              have x151 : h145 (rd + 3) = some (.inl (z 1, 60, .inl (upd (pS (P6 G)) b 0))) := (f147 _ (by omega)).trans x138
              have x152 : h145 (rd + 4) = some (.inl (z 1, 60, .inl (upd (pLt (P6 G)) b 0))) := (f147 _ (by omega)).trans x139
              have x153 : h145 (rd + 5) = some (.inl (z 1, 60, .inl (upd (pLb (P6 G)) b 0))) := (f147 _ (by omega)).trans x140
              have x154 : h145 (rd + 6) = some (.inl (z 1, 60, .inl (upd (pDp (P6 G)) b (nI d)))) := (f147 _ (by omega)).trans x141
              have x155 : h145 (rd + 7) = some (.inl (z 1, 60, .inl (upd (pIn (P6 G)) b (-1)))) := (f147 _ (by omega)).trans x142
              have x156 : h145 (rd + 8) = some (.inl (z 1, 360, .inl (upd (pBr (P6 G)) (6 * b) (-1)))) := (f147 _ (by omega)).trans x143
              have x157 : h145 (rd + 10) = some (.inl (z 1, 60, .inl (upd Ar b v0))) := (f147 _ (by omega)).trans x144
              have x158 : h145 (rd + 1) = some (.inr (9, [.int (nI (b + 1)), .ref (rd + 2), .ref (rd + 3), .ref (rd + 4), .ref (rd + 5), .ref (rd + 6), .ref (rd + 7), .ref (rd + 8), .ref (rd + 9)])) := (f147 _ (by omega)).trans e132
              refine ax_iload hC 1 dX8_readHead_194 rfl ?_
              refine ax_iret hC hr hlocks dX8_readHead_196 ?_
              exact ⟨rfl, rfl, fun q hq => ((f147 q (by omega)).trans ((f133 q (by omega)).trans ((f119 q (by omega)).trans ((f104 q (by omega)).trans ((f89 q (by omega)).trans ((f74 q (by omega)).trans ((f59 q (by omega)).trans ((f44 q (by omega)).trans ((f28 q (by omega)).trans (f13 q (by omega))))))))))), ⟨e146, x158, x150, x151, x152, x153, x154, x155, x156, x148, x157, x149⟩⟩
            · exact absurd c40 c8
          · exact absurd c9 c8
        · exact absurd ((nI_eq (a := kk) (b := 6) (by omega) (by omega)).mp c8) (by omega)
      · exact absurd (nI_lt (a := b) (b := 60) (by omega) (by decide)) c7

set_option maxRecDepth 100000 in
set_option maxHeartbeats 4000000 in
theorem c_X8_readHead_a (l : Launch) (D : va_G) (z : Nat → ClassId) (B : Heap) (lo hi : Nat) (h : Nat → Option va_E) (rd tp ln ap b : Nat) (G : RT) (Ar tx : Nat → Int32) (v0 : Int32) (d lp : Nat) (pre : List Nat) (hR : RdS z h rd tp ln ap b G Ar tx) (htp : tp < rd) (hb : b < 60) (hat : ap < ln) (hln : ln ≤ 200) (hkb : kbs (tx ap) = 6) (hlp : lp < b) (hlen : pre.length < 60) (hL : LpF (pK (P6 G)) (pLt (P6 G)) Ar b (tx ap) lp pre v0) (hm : ∃ x ∈ pre, ¬ pK (P6 G) x = 5) : Met l yX8_readHead wsX8_readHead rmX8_readHead (KP D vwCl B lo hi h (ty6 z) [.ref rd, .int v0, .int (nI d)]) (KQi D vwCl B lo (ty6 z) (fun r hi' h' => r = nI b ∧ hi' = hi ∧ (∀ q, (q < rd ∨ rd + 11 ≤ q) → h' q = h q) ∧ RdS z h' rd tp ln (ap + 1) (b + 1) (upd (pK (P6 G)) b 6, upd (pS (P6 G)) b 0, upd (pLt (P6 G)) b (tx ap), upd (pLb (P6 G)) b 0, upd (pDp (P6 G)) b (nI d), upd (pIn (P6 G)) b (-1), upd (pBr (P6 G)) (6 * b) (nI lp), pSt (P6 G)) (upd Ar b v0) tx)) 0 0 (fun q => lo ≤ q) := by
  obtain ⟨q0, q1, q2, q3, q4, q5, q6, q7, q8, q9, q10, q11⟩ := id hR
  refine ax_met (by decide) rfl (Nat.le_of_ble_eq_true rfl) (L0 := [(0, .ref rd), (1, .int v0), (2, .int (nI d))]) rfl ?_
  intro p e s m args below meth c hC hr hlocks hnm hargs
  have iX7 : ∀ w ∈ u_ws RX7 TX7 9, w ∈ wsX8_readHead := by decide +kernel
  have iX8 : ∀ w ∈ u_ws RX8 TX8 5, w ∈ wsX8_readHead := by decide +kernel
  refine ax_aload_n hC 0 dX8_readHead_0 rfl rfl ?_
  refine ax_callVp (st := []) hC [] q0 rfl (c_X8_sign l D z B lo _ h rd tp ln ap b G Ar tx hR htp (by omega) (by omega)) (cwV 0 hC.1.2.2.2.2 gX8_readHead_X8_sign rfl rfl rfl (by decide +kernel) ⟨Nat.le_of_ble_eq_true rfl, Nat.le_of_ble_eq_true rfl⟩) rfl rfl (Nat.le_of_ble_eq_true rfl) dX8_readHead_1 ⟨Nat.le_of_ble_eq_true rfl, Nat.le_of_ble_eq_true rfl⟩ (fun r1 er2 => ?_)
  subst er2
  refine ax_istore_n hC [(3, .int (tx ap)), (0, .ref rd), (1, .int v0), (2, .int (nI d))] dX8_readHead_4 rfl (by decide) rfl ?_
  refine ax_iload_n hC 0 dX8_readHead_5 rfl rfl ?_
  refine ax_callSp (st := []) hC [.int (tx ap)] (c_X8_kindBySign l D z B lo _ h (tx ap)) (va_cwS 1 hC.1.2.2.2.2 gX8_readHead_X8_kindBySign rfl rfl rfl (by decide +kernel) ⟨Nat.le_of_ble_eq_true rfl, Nat.le_of_ble_eq_true rfl⟩) rfl rfl (Nat.le_of_ble_eq_true rfl) dX8_readHead_6 ⟨Nat.le_of_ble_eq_true rfl, Nat.le_of_ble_eq_true rfl⟩ (fun r3 er4 => ?_)
  subst er4
  refine ax_eqi (y := 6) (hkb) ?_
  refine ax_istore hC [(4, .int 6), (3, .int (tx ap)), (0, .ref rd), (1, .int v0), (2, .int (nI d))] dX8_readHead_9 (by decide) rfl ?_
  refine ax_aload_n hC 2 dX8_readHead_11 rfl rfl ?_
  refine ax_getf (v := .ref (rd + 1)) hC q0 iX8 rfl 0 (by decide) (by decide +kernel) rfl rfl dX8_readHead_12 ?_
  refine ax_getf (v := .int (nI b)) hC q1 iX7 rfl 0 (by decide) (by decide +kernel) rfl rfl dX8_readHead_15 ?_
  refine ax_istore hC [(5, .int (nI b)), (4, .int 6), (3, .int (tx ap)), (0, .ref rd), (1, .int v0), (2, .int (nI d))] dX8_readHead_18 (by decide) rfl ?_
  refine ax_iload hC 1 dX8_readHead_20 rfl ?_
  refine ax_if_lt (tgt := 37) hC dX8_readHead_22 (by decide) (fun c5 => ?_) (fun c5 => ?_)
  · exact absurd c5 (by decide)
  · refine ax_iload hC 0 dX8_readHead_25 rfl ?_
    refine ax_if_lt (tgt := 37) hC dX8_readHead_27 (by decide) (fun c6 => ?_) (fun c6 => ?_)
    · exact absurd c6 (nI_pos (by omega))
    · refine ax_iload hC 0 dX8_readHead_30 rfl ?_
      refine ax_bipush (v := 60) hC dX8_readHead_32 (by decide) ?_
      refine ax_icmp_lt (tgt := 39) hC dX8_readHead_34 (by decide) (fun c7 => ?_) (fun c7 => ?_)
      · refine ax_iload hC 1 dX8_readHead_39 rfl ?_
        refine ax_bipush (v := 6) hC dX8_readHead_41 (by decide) ?_
        refine ax_icmp_ne (tgt := 55) hC dX8_readHead_43 (by decide) (fun c8 => ?_) (fun c8 => ?_)
        · exact absurd c8 (by decide)
        · refine ax_aload_n hC 3 dX8_readHead_46 rfl rfl ?_
          refine ax_iload_n hC 4 dX8_readHead_47 rfl rfl ?_
          refine ax_iload_n hC 2 dX8_readHead_48 rfl rfl ?_
          refine ax_callVp (st := []) hC [.int v0, .int (tx ap)] q0 rfl (c_X8_loopAround l D z B lo _ h rd tp ln ap b G Ar tx v0 (tx ap) lp pre hR htp (by omega) hlen hL hm) (cwV 2 hC.1.2.2.2.2 gX8_readHead_X8_loopAround rfl rfl rfl (by decide +kernel) ⟨Nat.le_of_ble_eq_true rfl, Nat.le_of_ble_eq_true rfl⟩) rfl rfl (Nat.le_of_ble_eq_true rfl) dX8_readHead_49 ⟨Nat.le_of_ble_eq_true rfl, Nat.le_of_ble_eq_true rfl⟩ (fun r9 er10 => ?_)
          subst er10
          refine ax_goto (tgt := 56) hC dX8_readHead_52 (by decide) ?_
          refine ax_istore hC [(6, .int (nI lp)), (5, .int (nI b)), (4, .int 6), (3, .int (tx ap)), (0, .ref rd), (1, .int v0), (2, .int (nI d))] dX8_readHead_56 (by decide) rfl ?_
          refine ax_iload hC 2 dX8_readHead_58 rfl ?_
          refine ax_bipush (v := 6) hC dX8_readHead_60 (by decide) ?_
          refine ax_icmp_ne (tgt := 72) hC dX8_readHead_62 (by decide) (fun c11 => ?_) (fun c11 => ?_)
          · exact absurd c11 (by decide)
          · refine ax_iload hC 0 dX8_readHead_65 rfl ?_
            refine ax_if_ge (tgt := 72) hC dX8_readHead_67 (by decide) (fun c12 => ?_) (fun c12 => ?_)
            · refine ax_aload_n hC 4 dX8_readHead_72 rfl rfl ?_
              refine ax_getf (v := .ref (rd + 1)) hC q0 iX8 rfl 0 (by decide) (by decide +kernel) rfl rfl dX8_readHead_73 ?_
              refine ax_getf (v := .ref (rd + 2)) hC q1 iX7 rfl 1 (by decide) (by decide +kernel) rfl rfl dX8_readHead_76 ?_
              refine ax_iload hC 1 dX8_readHead_79 rfl ?_
              refine ax_iload hC 2 dX8_readHead_81 rfl ?_
              have b13 : vp_in (nI b) 60 := vp_in_nI (by omega) (by omega)
              refine ax_iast hC q2 1 rfl b13 dX8_readHead_83 (fun h14 e15 f16 => ?_)
              rw [nI_clamp (by omega)] at e15
              have x17 : h14 rd = some (.inr (10, [.ref (rd + 1), .ref (rd + 10), .ref tp, .int (nI ln), .int (nI ap)])) := (f16 _ (by omega)).trans q0
              have x18 : h14 (rd + 1) = some (.inr (9, [.int (nI b), .ref (rd + 2), .ref (rd + 3), .ref (rd + 4), .ref (rd + 5), .ref (rd + 6), .ref (rd + 7), .ref (rd + 8), .ref (rd + 9)])) := (f16 _ (by omega)).trans q1
              have x19 : h14 (rd + 3) = some (.inl (z 1, 60, .inl (pS (P6 G)))) := (f16 _ (by omega)).trans q3
              have x20 : h14 (rd + 4) = some (.inl (z 1, 60, .inl (pLt (P6 G)))) := (f16 _ (by omega)).trans q4
              have x21 : h14 (rd + 5) = some (.inl (z 1, 60, .inl (pLb (P6 G)))) := (f16 _ (by omega)).trans q5
              have x22 : h14 (rd + 6) = some (.inl (z 1, 60, .inl (pDp (P6 G)))) := (f16 _ (by omega)).trans q6
              have x23 : h14 (rd + 7) = some (.inl (z 1, 60, .inl (pIn (P6 G)))) := (f16 _ (by omega)).trans q7
              have x24 : h14 (rd + 8) = some (.inl (z 1, 360, .inl (pBr (P6 G)))) := (f16 _ (by omega)).trans q8
              have x25 : h14 (rd + 9) = some (.inl (z 1, 60, .inl (pSt (P6 G)))) := (f16 _ (by omega)).trans q9
              have x26 : h14 (rd + 10) = some (.inl (z 1, 60, .inl (Ar))) := (f16 _ (by omega)).trans q10
              have x27 : h14 tp = some (.inl (z 1, 200, .inl (tx))) := (f16 _ (by omega)).trans q11
              refine ax_aload_n hC 4 dX8_readHead_84 rfl rfl ?_
              refine ax_getf (v := .ref (rd + 1)) hC x17 iX8 rfl 0 (by decide) (by decide +kernel) rfl rfl dX8_readHead_85 ?_
              refine ax_getf (v := .ref (rd + 3)) hC x18 iX7 rfl 2 (by decide) (by decide +kernel) rfl rfl dX8_readHead_88 ?_
              refine ax_iload hC 1 dX8_readHead_91 rfl ?_
              refine ax_iconst (v := 0) hC dX8_readHead_93 (by decide) ?_
              have b28 : vp_in (nI b) 60 := vp_in_nI (by omega) (by omega)
              refine ax_iast hC x19 1 rfl b28 dX8_readHead_94 (fun h29 e30 f31 => ?_)
              rw [nI_clamp (by omega)] at e30
              have x32 : h29 rd = some (.inr (10, [.ref (rd + 1), .ref (rd + 10), .ref tp, .int (nI ln), .int (nI ap)])) := (f31 _ (by omega)).trans x17
              have x33 : h29 (rd + 1) = some (.inr (9, [.int (nI b), .ref (rd + 2), .ref (rd + 3), .ref (rd + 4), .ref (rd + 5), .ref (rd + 6), .ref (rd + 7), .ref (rd + 8), .ref (rd + 9)])) := (f31 _ (by omega)).trans x18
              have x34 : h29 (rd + 4) = some (.inl (z 1, 60, .inl (pLt (P6 G)))) := (f31 _ (by omega)).trans x20
              have x35 : h29 (rd + 5) = some (.inl (z 1, 60, .inl (pLb (P6 G)))) := (f31 _ (by omega)).trans x21
              have x36 : h29 (rd + 6) = some (.inl (z 1, 60, .inl (pDp (P6 G)))) := (f31 _ (by omega)).trans x22
              have x37 : h29 (rd + 7) = some (.inl (z 1, 60, .inl (pIn (P6 G)))) := (f31 _ (by omega)).trans x23
              have x38 : h29 (rd + 8) = some (.inl (z 1, 360, .inl (pBr (P6 G)))) := (f31 _ (by omega)).trans x24
              have x39 : h29 (rd + 9) = some (.inl (z 1, 60, .inl (pSt (P6 G)))) := (f31 _ (by omega)).trans x25
              have x40 : h29 (rd + 10) = some (.inl (z 1, 60, .inl (Ar))) := (f31 _ (by omega)).trans x26
              have x41 : h29 tp = some (.inl (z 1, 200, .inl (tx))) := (f31 _ (by omega)).trans x27
              have x42 : h29 (rd + 2) = some (.inl (z 1, 60, .inl (upd (pK (P6 G)) b 6))) := (f31 _ (by omega)).trans e15
              refine ax_aload_n hC 4 dX8_readHead_95 rfl rfl ?_
              refine ax_getf (v := .ref (rd + 1)) hC x32 iX8 rfl 0 (by decide) (by decide +kernel) rfl rfl dX8_readHead_96 ?_
              refine ax_getf (v := .ref (rd + 4)) hC x33 iX7 rfl 3 (by decide) (by decide +kernel) rfl rfl dX8_readHead_99 ?_
              refine ax_iload hC 1 dX8_readHead_102 rfl ?_
              refine ax_iload hC 2 dX8_readHead_104 rfl ?_
              refine ax_bipush (v := 6) hC dX8_readHead_106 (by decide) ?_
              refine ax_icmp_ne (tgt := 115) hC dX8_readHead_108 (by decide) (fun c43 => ?_) (fun c43 => ?_)
              · exact absurd c43 (by decide)
              · refine ax_iload_n hC 3 dX8_readHead_111 rfl rfl ?_
                refine ax_goto (tgt := 116) hC dX8_readHead_112 (by decide) ?_
                have b44 : vp_in (nI b) 60 := vp_in_nI (by omega) (by omega)
                refine ax_iast hC x34 1 rfl b44 dX8_readHead_116 (fun h45 e46 f47 => ?_)
                rw [nI_clamp (by omega)] at e46
                have x48 : h45 rd = some (.inr (10, [.ref (rd + 1), .ref (rd + 10), .ref tp, .int (nI ln), .int (nI ap)])) := (f47 _ (by omega)).trans x32
                have x49 : h45 (rd + 1) = some (.inr (9, [.int (nI b), .ref (rd + 2), .ref (rd + 3), .ref (rd + 4), .ref (rd + 5), .ref (rd + 6), .ref (rd + 7), .ref (rd + 8), .ref (rd + 9)])) := (f47 _ (by omega)).trans x33
                have x50 : h45 (rd + 5) = some (.inl (z 1, 60, .inl (pLb (P6 G)))) := (f47 _ (by omega)).trans x35
                have x51 : h45 (rd + 6) = some (.inl (z 1, 60, .inl (pDp (P6 G)))) := (f47 _ (by omega)).trans x36
                have x52 : h45 (rd + 7) = some (.inl (z 1, 60, .inl (pIn (P6 G)))) := (f47 _ (by omega)).trans x37
                have x53 : h45 (rd + 8) = some (.inl (z 1, 360, .inl (pBr (P6 G)))) := (f47 _ (by omega)).trans x38
                have x54 : h45 (rd + 9) = some (.inl (z 1, 60, .inl (pSt (P6 G)))) := (f47 _ (by omega)).trans x39
                have x55 : h45 (rd + 10) = some (.inl (z 1, 60, .inl (Ar))) := (f47 _ (by omega)).trans x40
                have x56 : h45 tp = some (.inl (z 1, 200, .inl (tx))) := (f47 _ (by omega)).trans x41
                have x57 : h45 (rd + 2) = some (.inl (z 1, 60, .inl (upd (pK (P6 G)) b 6))) := (f47 _ (by omega)).trans x42
                have x58 : h45 (rd + 3) = some (.inl (z 1, 60, .inl (upd (pS (P6 G)) b 0))) := (f47 _ (by omega)).trans e30
                refine ax_aload_n hC 4 dX8_readHead_117 rfl rfl ?_
                refine ax_getf (v := .ref (rd + 1)) hC x48 iX8 rfl 0 (by decide) (by decide +kernel) rfl rfl dX8_readHead_118 ?_
                refine ax_getf (v := .ref (rd + 5)) hC x49 iX7 rfl 4 (by decide) (by decide +kernel) rfl rfl dX8_readHead_121 ?_
                refine ax_iload hC 1 dX8_readHead_124 rfl ?_
                refine ax_iconst (v := 0) hC dX8_readHead_126 (by decide) ?_
                have b59 : vp_in (nI b) 60 := vp_in_nI (by omega) (by omega)
                refine ax_iast hC x50 1 rfl b59 dX8_readHead_127 (fun h60 e61 f62 => ?_)
                rw [nI_clamp (by omega)] at e61
                have x63 : h60 rd = some (.inr (10, [.ref (rd + 1), .ref (rd + 10), .ref tp, .int (nI ln), .int (nI ap)])) := (f62 _ (by omega)).trans x48
                have x64 : h60 (rd + 1) = some (.inr (9, [.int (nI b), .ref (rd + 2), .ref (rd + 3), .ref (rd + 4), .ref (rd + 5), .ref (rd + 6), .ref (rd + 7), .ref (rd + 8), .ref (rd + 9)])) := (f62 _ (by omega)).trans x49
                have x65 : h60 (rd + 6) = some (.inl (z 1, 60, .inl (pDp (P6 G)))) := (f62 _ (by omega)).trans x51
                have x66 : h60 (rd + 7) = some (.inl (z 1, 60, .inl (pIn (P6 G)))) := (f62 _ (by omega)).trans x52
                have x67 : h60 (rd + 8) = some (.inl (z 1, 360, .inl (pBr (P6 G)))) := (f62 _ (by omega)).trans x53
                have x68 : h60 (rd + 9) = some (.inl (z 1, 60, .inl (pSt (P6 G)))) := (f62 _ (by omega)).trans x54
                have x69 : h60 (rd + 10) = some (.inl (z 1, 60, .inl (Ar))) := (f62 _ (by omega)).trans x55
                have x70 : h60 tp = some (.inl (z 1, 200, .inl (tx))) := (f62 _ (by omega)).trans x56
                have x71 : h60 (rd + 2) = some (.inl (z 1, 60, .inl (upd (pK (P6 G)) b 6))) := (f62 _ (by omega)).trans x57
                have x72 : h60 (rd + 3) = some (.inl (z 1, 60, .inl (upd (pS (P6 G)) b 0))) := (f62 _ (by omega)).trans x58
                have x73 : h60 (rd + 4) = some (.inl (z 1, 60, .inl (upd (pLt (P6 G)) b (tx ap)))) := (f62 _ (by omega)).trans e46
                refine ax_aload_n hC 4 dX8_readHead_128 rfl rfl ?_
                refine ax_getf (v := .ref (rd + 1)) hC x63 iX8 rfl 0 (by decide) (by decide +kernel) rfl rfl dX8_readHead_129 ?_
                refine ax_getf (v := .ref (rd + 6)) hC x64 iX7 rfl 5 (by decide) (by decide +kernel) rfl rfl dX8_readHead_132 ?_
                refine ax_iload hC 1 dX8_readHead_135 rfl ?_
                refine ax_iload_n hC 6 dX8_readHead_137 rfl rfl ?_
                have b74 : vp_in (nI b) 60 := vp_in_nI (by omega) (by omega)
                refine ax_iast hC x65 1 rfl b74 dX8_readHead_138 (fun h75 e76 f77 => ?_)
                rw [nI_clamp (by omega)] at e76
                have x78 : h75 rd = some (.inr (10, [.ref (rd + 1), .ref (rd + 10), .ref tp, .int (nI ln), .int (nI ap)])) := (f77 _ (by omega)).trans x63
                have x79 : h75 (rd + 1) = some (.inr (9, [.int (nI b), .ref (rd + 2), .ref (rd + 3), .ref (rd + 4), .ref (rd + 5), .ref (rd + 6), .ref (rd + 7), .ref (rd + 8), .ref (rd + 9)])) := (f77 _ (by omega)).trans x64
                have x80 : h75 (rd + 7) = some (.inl (z 1, 60, .inl (pIn (P6 G)))) := (f77 _ (by omega)).trans x66
                have x81 : h75 (rd + 8) = some (.inl (z 1, 360, .inl (pBr (P6 G)))) := (f77 _ (by omega)).trans x67
                have x82 : h75 (rd + 9) = some (.inl (z 1, 60, .inl (pSt (P6 G)))) := (f77 _ (by omega)).trans x68
                have x83 : h75 (rd + 10) = some (.inl (z 1, 60, .inl (Ar))) := (f77 _ (by omega)).trans x69
                have x84 : h75 tp = some (.inl (z 1, 200, .inl (tx))) := (f77 _ (by omega)).trans x70
                have x85 : h75 (rd + 2) = some (.inl (z 1, 60, .inl (upd (pK (P6 G)) b 6))) := (f77 _ (by omega)).trans x71
                have x86 : h75 (rd + 3) = some (.inl (z 1, 60, .inl (upd (pS (P6 G)) b 0))) := (f77 _ (by omega)).trans x72
                have x87 : h75 (rd + 4) = some (.inl (z 1, 60, .inl (upd (pLt (P6 G)) b (tx ap)))) := (f77 _ (by omega)).trans x73
                have x88 : h75 (rd + 5) = some (.inl (z 1, 60, .inl (upd (pLb (P6 G)) b 0))) := (f77 _ (by omega)).trans e61
                refine ax_aload_n hC 4 dX8_readHead_139 rfl rfl ?_
                refine ax_getf (v := .ref (rd + 1)) hC x78 iX8 rfl 0 (by decide) (by decide +kernel) rfl rfl dX8_readHead_140 ?_
                refine ax_getf (v := .ref (rd + 7)) hC x79 iX7 rfl 6 (by decide) (by decide +kernel) rfl rfl dX8_readHead_143 ?_
                refine ax_iload hC 1 dX8_readHead_146 rfl ?_
                refine ax_iconst (v := (-1)) hC dX8_readHead_148 (by decide) ?_
                have b89 : vp_in (nI b) 60 := vp_in_nI (by omega) (by omega)
                refine ax_iast hC x80 1 rfl b89 dX8_readHead_149 (fun h90 e91 f92 => ?_)
                rw [nI_clamp (by omega)] at e91
                have x93 : h90 rd = some (.inr (10, [.ref (rd + 1), .ref (rd + 10), .ref tp, .int (nI ln), .int (nI ap)])) := (f92 _ (by omega)).trans x78
                have x94 : h90 (rd + 1) = some (.inr (9, [.int (nI b), .ref (rd + 2), .ref (rd + 3), .ref (rd + 4), .ref (rd + 5), .ref (rd + 6), .ref (rd + 7), .ref (rd + 8), .ref (rd + 9)])) := (f92 _ (by omega)).trans x79
                have x95 : h90 (rd + 8) = some (.inl (z 1, 360, .inl (pBr (P6 G)))) := (f92 _ (by omega)).trans x81
                have x96 : h90 (rd + 9) = some (.inl (z 1, 60, .inl (pSt (P6 G)))) := (f92 _ (by omega)).trans x82
                have x97 : h90 (rd + 10) = some (.inl (z 1, 60, .inl (Ar))) := (f92 _ (by omega)).trans x83
                have x98 : h90 tp = some (.inl (z 1, 200, .inl (tx))) := (f92 _ (by omega)).trans x84
                have x99 : h90 (rd + 2) = some (.inl (z 1, 60, .inl (upd (pK (P6 G)) b 6))) := (f92 _ (by omega)).trans x85
                have x100 : h90 (rd + 3) = some (.inl (z 1, 60, .inl (upd (pS (P6 G)) b 0))) := (f92 _ (by omega)).trans x86
                have x101 : h90 (rd + 4) = some (.inl (z 1, 60, .inl (upd (pLt (P6 G)) b (tx ap)))) := (f92 _ (by omega)).trans x87
                have x102 : h90 (rd + 5) = some (.inl (z 1, 60, .inl (upd (pLb (P6 G)) b 0))) := (f92 _ (by omega)).trans x88
                have x103 : h90 (rd + 6) = some (.inl (z 1, 60, .inl (upd (pDp (P6 G)) b (nI d)))) := (f92 _ (by omega)).trans e76
                refine ax_aload_n hC 4 dX8_readHead_150 rfl rfl ?_
                refine ax_getf (v := .ref (rd + 1)) hC x93 iX8 rfl 0 (by decide) (by decide +kernel) rfl rfl dX8_readHead_151 ?_
                refine ax_getf (v := .ref (rd + 8)) hC x94 iX7 rfl 7 (by decide) (by decide +kernel) rfl rfl dX8_readHead_154 ?_
                refine ax_iload hC 1 dX8_readHead_157 rfl ?_
                refine ax_bipush (v := 6) hC dX8_readHead_159 (by decide) ?_
                refine ax_imul hC dX8_readHead_161 ?_
                refine ax_eqi (y := nI (6 * b)) (by rw [Nat.mul_comm]; exact nI_mul' b 6) ?_
                refine ax_iload hC 0 dX8_readHead_162 rfl ?_
                have b104 : vp_in (nI (6 * b)) 360 := vp_in_nI (by omega) (by omega)
                refine ax_iast hC x95 1 rfl b104 dX8_readHead_164 (fun h105 e106 f107 => ?_)
                rw [nI_clamp (by omega)] at e106
                have x108 : h105 rd = some (.inr (10, [.ref (rd + 1), .ref (rd + 10), .ref tp, .int (nI ln), .int (nI ap)])) := (f107 _ (by omega)).trans x93
                have x109 : h105 (rd + 1) = some (.inr (9, [.int (nI b), .ref (rd + 2), .ref (rd + 3), .ref (rd + 4), .ref (rd + 5), .ref (rd + 6), .ref (rd + 7), .ref (rd + 8), .ref (rd + 9)])) := (f107 _ (by omega)).trans x94
                have x110 : h105 (rd + 9) = some (.inl (z 1, 60, .inl (pSt (P6 G)))) := (f107 _ (by omega)).trans x96
                have x111 : h105 (rd + 10) = some (.inl (z 1, 60, .inl (Ar))) := (f107 _ (by omega)).trans x97
                have x112 : h105 tp = some (.inl (z 1, 200, .inl (tx))) := (f107 _ (by omega)).trans x98
                have x113 : h105 (rd + 2) = some (.inl (z 1, 60, .inl (upd (pK (P6 G)) b 6))) := (f107 _ (by omega)).trans x99
                have x114 : h105 (rd + 3) = some (.inl (z 1, 60, .inl (upd (pS (P6 G)) b 0))) := (f107 _ (by omega)).trans x100
                have x115 : h105 (rd + 4) = some (.inl (z 1, 60, .inl (upd (pLt (P6 G)) b (tx ap)))) := (f107 _ (by omega)).trans x101
                have x116 : h105 (rd + 5) = some (.inl (z 1, 60, .inl (upd (pLb (P6 G)) b 0))) := (f107 _ (by omega)).trans x102
                have x117 : h105 (rd + 6) = some (.inl (z 1, 60, .inl (upd (pDp (P6 G)) b (nI d)))) := (f107 _ (by omega)).trans x103
                have x118 : h105 (rd + 7) = some (.inl (z 1, 60, .inl (upd (pIn (P6 G)) b (-1)))) := (f107 _ (by omega)).trans e91
                refine ax_aload_n hC 4 dX8_readHead_165 rfl rfl ?_
                refine ax_getf (v := .ref (rd + 10)) hC x108 iX8 rfl 1 (by decide) (by decide +kernel) rfl rfl dX8_readHead_166 ?_
                refine ax_iload hC 1 dX8_readHead_169 rfl ?_
                refine ax_iload_n hC 5 dX8_readHead_171 rfl rfl ?_
                have b119 : vp_in (nI b) 60 := vp_in_nI (by omega) (by omega)
                refine ax_iast hC x111 1 rfl b119 dX8_readHead_172 (fun h120 e121 f122 => ?_)
                rw [nI_clamp (by omega)] at e121
                have x123 : h120 rd = some (.inr (10, [.ref (rd + 1), .ref (rd + 10), .ref tp, .int (nI ln), .int (nI ap)])) := (f122 _ (by omega)).trans x108
                have x124 : h120 (rd + 1) = some (.inr (9, [.int (nI b), .ref (rd + 2), .ref (rd + 3), .ref (rd + 4), .ref (rd + 5), .ref (rd + 6), .ref (rd + 7), .ref (rd + 8), .ref (rd + 9)])) := (f122 _ (by omega)).trans x109
                have x125 : h120 (rd + 9) = some (.inl (z 1, 60, .inl (pSt (P6 G)))) := (f122 _ (by omega)).trans x110
                have x126 : h120 tp = some (.inl (z 1, 200, .inl (tx))) := (f122 _ (by omega)).trans x112
                have x127 : h120 (rd + 2) = some (.inl (z 1, 60, .inl (upd (pK (P6 G)) b 6))) := (f122 _ (by omega)).trans x113
                have x128 : h120 (rd + 3) = some (.inl (z 1, 60, .inl (upd (pS (P6 G)) b 0))) := (f122 _ (by omega)).trans x114
                have x129 : h120 (rd + 4) = some (.inl (z 1, 60, .inl (upd (pLt (P6 G)) b (tx ap)))) := (f122 _ (by omega)).trans x115
                have x130 : h120 (rd + 5) = some (.inl (z 1, 60, .inl (upd (pLb (P6 G)) b 0))) := (f122 _ (by omega)).trans x116
                have x131 : h120 (rd + 6) = some (.inl (z 1, 60, .inl (upd (pDp (P6 G)) b (nI d)))) := (f122 _ (by omega)).trans x117
                have x132 : h120 (rd + 7) = some (.inl (z 1, 60, .inl (upd (pIn (P6 G)) b (-1)))) := (f122 _ (by omega)).trans x118
                have x133 : h120 (rd + 8) = some (.inl (z 1, 360, .inl (upd (pBr (P6 G)) (6 * b) (nI lp)))) := (f122 _ (by omega)).trans e106
                refine ax_aload_n hC 4 dX8_readHead_173 rfl rfl ?_
                refine ax_getf (v := .ref (rd + 1)) hC x123 iX8 rfl 0 (by decide) (by decide +kernel) rfl rfl dX8_readHead_174 ?_
                refine ax_iload hC 1 dX8_readHead_177 rfl ?_
                refine ax_iconst (v := 1) hC dX8_readHead_179 (by decide) ?_
                refine ax_iadd hC dX8_readHead_180 ?_
                refine ax_eqi (y := nI (b + 1)) (nI_1 b) ?_
                refine ax_putf (v := .int (nI (b + 1))) (ty := .int) hC tyX7 x124 iX7 tyX7_ok nmX7 rfl 0 (by decide) (by decide +kernel) rfl rfl (by decide +kernel) (rfl) rfl (Nat.le_of_ble_eq_true rfl) dX8_readHead_181 (fun h134 e135 f136 => ?_)
                have e135 : h134 (rd + 1) = some (.inr (9, [.int (nI (b + 1)), .ref (rd + 2), .ref (rd + 3), .ref (rd + 4), .ref (rd + 5), .ref (rd + 6), .ref (rd + 7), .ref (rd + 8), .ref (rd + 9)])) := e135
                have x137 : h134 rd = some (.inr (10, [.ref (rd + 1), .ref (rd + 10), .ref tp, .int (nI ln), .int (nI ap)])) := (f136 _ (by omega)).trans x123
                have x138 : h134 (rd + 9) = some (.inl (z 1, 60, .inl (pSt (P6 G)))) := (f136 _ (by omega)).trans x125
                have x139 : h134 tp = some (.inl (z 1, 200, .inl (tx))) := (f136 _ (by omega)).trans x126
                have x140 : h134 (rd + 2) = some (.inl (z 1, 60, .inl (upd (pK (P6 G)) b 6))) := (f136 _ (by omega)).trans x127
                have x141 : h134 (rd + 3) = some (.inl (z 1, 60, .inl (upd (pS (P6 G)) b 0))) := (f136 _ (by omega)).trans x128
                have x142 : h134 (rd + 4) = some (.inl (z 1, 60, .inl (upd (pLt (P6 G)) b (tx ap)))) := (f136 _ (by omega)).trans x129
                have x143 : h134 (rd + 5) = some (.inl (z 1, 60, .inl (upd (pLb (P6 G)) b 0))) := (f136 _ (by omega)).trans x130
                have x144 : h134 (rd + 6) = some (.inl (z 1, 60, .inl (upd (pDp (P6 G)) b (nI d)))) := (f136 _ (by omega)).trans x131
                have x145 : h134 (rd + 7) = some (.inl (z 1, 60, .inl (upd (pIn (P6 G)) b (-1)))) := (f136 _ (by omega)).trans x132
                have x146 : h134 (rd + 8) = some (.inl (z 1, 360, .inl (upd (pBr (P6 G)) (6 * b) (nI lp)))) := (f136 _ (by omega)).trans x133
                have x147 : h134 (rd + 10) = some (.inl (z 1, 60, .inl (upd Ar b v0))) := (f136 _ (by omega)).trans e121
                refine ax_aload_n hC 4 dX8_readHead_184 rfl rfl ?_
                refine ax_dup hC dX8_readHead_185 rfl ?_
                refine ax_getf (v := .int (nI ap)) hC x137 iX8 rfl 4 (by decide) (by decide +kernel) rfl rfl dX8_readHead_186 ?_
                refine ax_iconst (v := 1) hC dX8_readHead_189 (by decide) ?_
                refine ax_iadd hC dX8_readHead_190 ?_
                refine ax_eqi (y := nI (ap + 1)) (nI_1 ap) ?_
                refine ax_putf (v := .int (nI (ap + 1))) (ty := .int) hC tyX8 x137 iX8 tyX8_ok nmX8 rfl 4 (by decide) (by decide +kernel) rfl rfl (by decide +kernel) (rfl) rfl (Nat.le_of_ble_eq_true rfl) dX8_readHead_191 (fun h148 e149 f150 => ?_)
                have e149 : h148 rd = some (.inr (10, [.ref (rd + 1), .ref (rd + 10), .ref tp, .int (nI ln), .int (nI (ap + 1))])) := e149
                have x151 : h148 (rd + 9) = some (.inl (z 1, 60, .inl (pSt (P6 G)))) := (f150 _ (by omega)).trans x138
                have x152 : h148 tp = some (.inl (z 1, 200, .inl (tx))) := (f150 _ (by omega)).trans x139
                have x153 : h148 (rd + 2) = some (.inl (z 1, 60, .inl (upd (pK (P6 G)) b 6))) := (f150 _ (by omega)).trans x140
                have x154 : h148 (rd + 3) = some (.inl (z 1, 60, .inl (upd (pS (P6 G)) b 0))) := (f150 _ (by omega)).trans x141
                have x155 : h148 (rd + 4) = some (.inl (z 1, 60, .inl (upd (pLt (P6 G)) b (tx ap)))) := (f150 _ (by omega)).trans x142
                have x156 : h148 (rd + 5) = some (.inl (z 1, 60, .inl (upd (pLb (P6 G)) b 0))) := (f150 _ (by omega)).trans x143
                have x157 : h148 (rd + 6) = some (.inl (z 1, 60, .inl (upd (pDp (P6 G)) b (nI d)))) := (f150 _ (by omega)).trans x144
                have x158 : h148 (rd + 7) = some (.inl (z 1, 60, .inl (upd (pIn (P6 G)) b (-1)))) := (f150 _ (by omega)).trans x145
                have x159 : h148 (rd + 8) = some (.inl (z 1, 360, .inl (upd (pBr (P6 G)) (6 * b) (nI lp)))) := (f150 _ (by omega)).trans x146
                have x160 : h148 (rd + 10) = some (.inl (z 1, 60, .inl (upd Ar b v0))) := (f150 _ (by omega)).trans x147
                have x161 : h148 (rd + 1) = some (.inr (9, [.int (nI (b + 1)), .ref (rd + 2), .ref (rd + 3), .ref (rd + 4), .ref (rd + 5), .ref (rd + 6), .ref (rd + 7), .ref (rd + 8), .ref (rd + 9)])) := (f150 _ (by omega)).trans e135
                refine ax_iload hC 1 dX8_readHead_194 rfl ?_
                refine ax_iret hC hr hlocks dX8_readHead_196 ?_
                exact ⟨rfl, rfl, fun q hq => ((f150 q (by omega)).trans ((f136 q (by omega)).trans ((f122 q (by omega)).trans ((f107 q (by omega)).trans ((f92 q (by omega)).trans ((f77 q (by omega)).trans ((f62 q (by omega)).trans ((f47 q (by omega)).trans ((f31 q (by omega)).trans (f16 q (by omega))))))))))), ⟨e149, x161, x153, x154, x155, x156, x157, x158, x159, x151, x160, x152⟩⟩
            · exact absurd (nI_pos' (by omega)) c12
      · exact absurd (nI_lt (a := b) (b := 60) (by omega) (by decide)) c7

theorem ab_many : ∀ j, j < 3 → (if (5 : Int32) < popc (nI (2 ^ j - 1)) then (5 : Int32) else popc (nI (2 ^ j - 1))) = nI j := by decide +kernel
theorem ab_rank : ∀ j, j < 3 → (if nI j < popc (nI (2 ^ j - 1) &&& (((1 : Int32) <<< ((nI j) &&& 31)) - 1)) then nI j else popc (nI (2 ^ j - 1) &&& (((1 : Int32) <<< ((nI j) &&& 31)) - 1))) = nI j := by decide +kernel
theorem ab_set : ∀ j, j < 3 → (nI (2 ^ j - 1) ||| ((1 : Int32) <<< ((nI j) &&& 31))) = nI (2 ^ (j + 1) - 1) := by decide +kernel
abbrev rmX8_addBranch : Room := { frames := 1, cells := 0, slots := 0, locals := 40 }
set_option maxRecDepth 100000 in
set_option maxHeartbeats 4000000 in
theorem c_X8_addBranch (l : Launch) (D : va_G) (z : Nat → ClassId) (B : Heap) (lo hi : Nat) (h : Nat → Option va_E) (rd tp ln ap b : Nat) (G : RT) (Ar tx : Nat → Int32) (nd j fs : Nat) (hR : RdS z h rd tp ln ap b G Ar tx) (htp : tp < rd) (hnd : nd < 60) (hj : j < 3) (hlb : pLb (P6 G) nd = nI (2 ^ j - 1)) : Met l yX8_addBranch wsX8_addBranch rmX8_addBranch (KP D vwCl B lo hi h (ty6 z) [.ref rd, .int (nI nd), .int (nI j), .int (nI fs)]) (KQv D vwCl B lo (ty6 z) (fun hi' h' => hi' = hi ∧ (∀ q, (q < rd ∨ rd + 11 ≤ q) → h' q = h q) ∧ RdS z h' rd tp ln ap b (pK (P6 G), pS (P6 G), pLt (P6 G), upd (pLb (P6 G)) nd (nI (2 ^ (j + 1) - 1)), pDp (P6 G), pIn (P6 G), upd (pBr (P6 G)) (6 * nd + j) (nI fs), pSt (P6 G)) Ar tx)) 0 0 (fun q => lo ≤ q) := by
  obtain ⟨q0, q1, q2, q3, q4, q5, q6, q7, q8, q9, q10, q11⟩ := id hR
  refine ax_met (by decide) rfl (Nat.le_of_ble_eq_true rfl) (L0 := [(0, .ref rd), (1, .int (nI nd)), (2, .int (nI j)), (3, .int (nI fs))]) rfl ?_
  intro p e s m args below meth c hC hr hlocks hnm hargs
  have iX7 : ∀ w ∈ u_ws RX7 TX7 9, w ∈ wsX8_addBranch := by decide +kernel
  have iX8 : ∀ w ∈ u_ws RX8 TX8 5, w ∈ wsX8_addBranch := by decide +kernel
  refine ax_iload_n hC 1 dX8_addBranch_0 rfl rfl ?_
  refine ax_if_lt (tgt := 10) hC dX8_addBranch_1 (by decide) (fun c1 => ?_) (fun c1 => ?_)
  · exact absurd c1 (nI_pos (by omega))
  · refine ax_iload_n hC 1 dX8_addBranch_4 rfl rfl ?_
    refine ax_bipush (v := 60) hC dX8_addBranch_5 (by decide) ?_
    refine ax_icmp_lt (tgt := 11) hC dX8_addBranch_7 (by decide) (fun c2 => ?_) (fun c2 => ?_)
    · refine ax_aload_n hC 0 dX8_addBranch_11 rfl rfl ?_
      refine ax_getf (v := .ref (rd + 1)) hC q0 iX8 rfl 0 (by decide) (by decide +kernel) rfl rfl dX8_addBranch_12 ?_
      refine ax_getf (v := .ref (rd + 5)) hC q1 iX7 rfl 4 (by decide) (by decide +kernel) rfl rfl dX8_addBranch_15 ?_
      refine ax_iload_n hC 1 dX8_addBranch_18 rfl rfl ?_
      have b3 : vp_in (nI nd) 60 := vp_in_nI (by omega) (by omega)
      refine ax_iald hC q5 1 rfl b3 dX8_addBranch_19 ?_
      refine ax_eqi (y := (pLb (P6 G)) nd) (by rw [nI_clamp (by omega)] <;> rfl) ?_
      refine ax_eqi (y := nI (2 ^ j - 1)) (hlb) ?_
      refine ax_istore hC [(4, .int (nI (2 ^ j - 1))), (0, .ref rd), (1, .int (nI nd)), (2, .int (nI j)), (3, .int (nI fs))] dX8_addBranch_20 (by decide) rfl ?_
      refine ax_iload hC 0 dX8_addBranch_22 rfl ?_
      refine ax_callSp (st := []) hC [.int (nI (2 ^ j - 1))] (c_J6_bitCount_0f7a4 l D z B lo _ h (nI (2 ^ j - 1))) (va_cwS 1 hC.1.2.2.2.2 gX8_addBranch_J6_bitCount_0f7a4 rfl rfl rfl (by decide +kernel) ⟨Nat.le_of_ble_eq_true rfl, Nat.le_of_ble_eq_true rfl⟩) rfl rfl (Nat.le_of_ble_eq_true rfl) dX8_addBranch_24 ⟨Nat.le_of_ble_eq_true rfl, Nat.le_of_ble_eq_true rfl⟩ (fun r4 er5 => ?_)
      subst er5
      refine ax_iconst (v := 5) hC dX8_addBranch_27 (by decide) ?_
      refine ax_mmin hC (by decide +kernel) (by decide +kernel) (by decide +kernel) (by decide +kernel) (Nat.le_of_ble_eq_true rfl) (Nat.le_of_ble_eq_true rfl) (Nat.le_of_ble_eq_true rfl) (Nat.le_of_ble_eq_true rfl) dX8_addBranch_28 ?_
      refine ax_eqi (y := nI j) (ab_many j hj) ?_
      refine ax_istore hC [(5, .int (nI j)), (4, .int (nI (2 ^ j - 1))), (0, .ref rd), (1, .int (nI nd)), (2, .int (nI j)), (3, .int (nI fs))] dX8_addBranch_31 (by decide) rfl ?_
      refine ax_iload hC 1 dX8_addBranch_33 rfl ?_
      refine ax_iconst (v := 1) hC dX8_addBranch_35 (by decide) ?_
      refine ax_iload_n hC 4 dX8_addBranch_36 rfl rfl ?_
      refine ax_ishl hC dX8_addBranch_37 ?_
      refine ax_iconst (v := 1) hC dX8_addBranch_38 (by decide) ?_
      refine ax_isub hC dX8_addBranch_39 ?_
      refine ax_iand hC dX8_addBranch_40 ?_
      refine ax_callSp (st := []) hC [.int ((nI (2 ^ j - 1)) &&& ((1 <<< ((nI j) &&& 31)) - 1))] (c_J6_bitCount_0f7a4 l D z B lo _ h ((nI (2 ^ j - 1)) &&& ((1 <<< ((nI j) &&& 31)) - 1))) (va_cwS 1 hC.1.2.2.2.2 gX8_addBranch_J6_bitCount_0f7a4 rfl rfl rfl (by decide +kernel) ⟨Nat.le_of_ble_eq_true rfl, Nat.le_of_ble_eq_true rfl⟩) rfl rfl (Nat.le_of_ble_eq_true rfl) dX8_addBranch_41 ⟨Nat.le_of_ble_eq_true rfl, Nat.le_of_ble_eq_true rfl⟩ (fun r6 er7 => ?_)
      subst er7
      refine ax_iload hC 0 dX8_addBranch_44 rfl ?_
      refine ax_mmin hC (by decide +kernel) (by decide +kernel) (by decide +kernel) (by decide +kernel) (Nat.le_of_ble_eq_true rfl) (Nat.le_of_ble_eq_true rfl) (Nat.le_of_ble_eq_true rfl) (Nat.le_of_ble_eq_true rfl) dX8_addBranch_46 ?_
      refine ax_eqi (y := nI j) (ab_rank j hj) ?_
      refine ax_istore hC [(6, .int (nI j)), (5, .int (nI j)), (4, .int (nI (2 ^ j - 1))), (0, .ref rd), (1, .int (nI nd)), (2, .int (nI j)), (3, .int (nI fs))] dX8_addBranch_49 (by decide) rfl ?_
      refine ax_iload_n hC 4 dX8_addBranch_51 rfl rfl ?_
      refine ax_bipush (v := 6) hC dX8_addBranch_52 (by decide) ?_
      refine ax_imul hC dX8_addBranch_54 ?_
      refine ax_eqi (y := nI (6 * nd)) (by rw [Nat.mul_comm]; exact nI_mul' nd 6) ?_
      refine ax_istore hC [(7, .int (nI (6 * nd))), (6, .int (nI j)), (5, .int (nI j)), (4, .int (nI (2 ^ j - 1))), (0, .ref rd), (1, .int (nI nd)), (2, .int (nI j)), (3, .int (nI fs))] dX8_addBranch_55 (by decide) rfl ?_
      refine ax_iload hC 2 dX8_addBranch_57 rfl ?_
      refine ax_istore hC [(8, .int (nI j)), (7, .int (nI (6 * nd))), (6, .int (nI j)), (5, .int (nI j)), (4, .int (nI (2 ^ j - 1))), (0, .ref rd), (1, .int (nI nd)), (2, .int (nI j)), (3, .int (nI fs))] dX8_addBranch_59 (by decide) rfl ?_
      refine ax_iload hC 0 dX8_addBranch_61 rfl ?_
      refine ax_iload hC 2 dX8_addBranch_63 rfl ?_
      refine ax_icmp_le (tgt := 102) hC dX8_addBranch_65 (by decide) (fun c8 => ?_) (fun c8 => ?_)
      · refine ax_aload_n hC 5 dX8_addBranch_102 rfl rfl ?_
        refine ax_getf (v := .ref (rd + 1)) hC q0 iX8 rfl 0 (by decide) (by decide +kernel) rfl rfl dX8_addBranch_103 ?_
        refine ax_getf (v := .ref (rd + 8)) hC q1 iX7 rfl 7 (by decide) (by decide +kernel) rfl rfl dX8_addBranch_106 ?_
        refine ax_iload hC 1 dX8_addBranch_109 rfl ?_
        refine ax_iload hC 2 dX8_addBranch_111 rfl ?_
        refine ax_iadd hC dX8_addBranch_113 ?_
        refine ax_eqi (y := nI (6 * nd + j)) (nI_add _ _) ?_
        refine ax_iload_n hC 8 dX8_addBranch_114 rfl rfl ?_
        have b9 : vp_in (nI (6 * nd + j)) 360 := vp_in_nI (by omega) (by omega)
        refine ax_iast hC q8 1 rfl b9 dX8_addBranch_115 (fun h10 e11 f12 => ?_)
        rw [nI_clamp (by omega)] at e11
        have x13 : h10 rd = some (.inr (10, [.ref (rd + 1), .ref (rd + 10), .ref tp, .int (nI ln), .int (nI ap)])) := (f12 _ (by omega)).trans q0
        have x14 : h10 (rd + 1) = some (.inr (9, [.int (nI b), .ref (rd + 2), .ref (rd + 3), .ref (rd + 4), .ref (rd + 5), .ref (rd + 6), .ref (rd + 7), .ref (rd + 8), .ref (rd + 9)])) := (f12 _ (by omega)).trans q1
        have x15 : h10 (rd + 2) = some (.inl (z 1, 60, .inl (pK (P6 G)))) := (f12 _ (by omega)).trans q2
        have x16 : h10 (rd + 3) = some (.inl (z 1, 60, .inl (pS (P6 G)))) := (f12 _ (by omega)).trans q3
        have x17 : h10 (rd + 4) = some (.inl (z 1, 60, .inl (pLt (P6 G)))) := (f12 _ (by omega)).trans q4
        have x18 : h10 (rd + 5) = some (.inl (z 1, 60, .inl (pLb (P6 G)))) := (f12 _ (by omega)).trans q5
        have x19 : h10 (rd + 6) = some (.inl (z 1, 60, .inl (pDp (P6 G)))) := (f12 _ (by omega)).trans q6
        have x20 : h10 (rd + 7) = some (.inl (z 1, 60, .inl (pIn (P6 G)))) := (f12 _ (by omega)).trans q7
        have x21 : h10 (rd + 9) = some (.inl (z 1, 60, .inl (pSt (P6 G)))) := (f12 _ (by omega)).trans q9
        have x22 : h10 (rd + 10) = some (.inl (z 1, 60, .inl (Ar))) := (f12 _ (by omega)).trans q10
        have x23 : h10 tp = some (.inl (z 1, 200, .inl (tx))) := (f12 _ (by omega)).trans q11
        refine ax_aload_n hC 5 dX8_addBranch_116 rfl rfl ?_
        refine ax_getf (v := .ref (rd + 1)) hC x13 iX8 rfl 0 (by decide) (by decide +kernel) rfl rfl dX8_addBranch_117 ?_
        refine ax_getf (v := .ref (rd + 5)) hC x14 iX7 rfl 4 (by decide) (by decide +kernel) rfl rfl dX8_addBranch_120 ?_
        refine ax_iload_n hC 6 dX8_addBranch_123 rfl rfl ?_
        refine ax_iload hC 4 dX8_addBranch_124 rfl ?_
        refine ax_iconst (v := 1) hC dX8_addBranch_126 (by decide) ?_
        refine ax_iload_n hC 7 dX8_addBranch_127 rfl rfl ?_
        refine ax_ishl hC dX8_addBranch_128 ?_
        refine ax_ior hC dX8_addBranch_129 ?_
        refine ax_eqi (y := nI (2 ^ (j + 1) - 1)) (ab_set j hj) ?_
        have b24 : vp_in (nI nd) 60 := vp_in_nI (by omega) (by omega)
        refine ax_iast hC x18 1 rfl b24 dX8_addBranch_130 (fun h25 e26 f27 => ?_)
        rw [nI_clamp (by omega)] at e26
        have x28 : h25 rd = some (.inr (10, [.ref (rd + 1), .ref (rd + 10), .ref tp, .int (nI ln), .int (nI ap)])) := (f27 _ (by omega)).trans x13
        have x29 : h25 (rd + 1) = some (.inr (9, [.int (nI b), .ref (rd + 2), .ref (rd + 3), .ref (rd + 4), .ref (rd + 5), .ref (rd + 6), .ref (rd + 7), .ref (rd + 8), .ref (rd + 9)])) := (f27 _ (by omega)).trans x14
        have x30 : h25 (rd + 2) = some (.inl (z 1, 60, .inl (pK (P6 G)))) := (f27 _ (by omega)).trans x15
        have x31 : h25 (rd + 3) = some (.inl (z 1, 60, .inl (pS (P6 G)))) := (f27 _ (by omega)).trans x16
        have x32 : h25 (rd + 4) = some (.inl (z 1, 60, .inl (pLt (P6 G)))) := (f27 _ (by omega)).trans x17
        have x33 : h25 (rd + 6) = some (.inl (z 1, 60, .inl (pDp (P6 G)))) := (f27 _ (by omega)).trans x19
        have x34 : h25 (rd + 7) = some (.inl (z 1, 60, .inl (pIn (P6 G)))) := (f27 _ (by omega)).trans x20
        have x35 : h25 (rd + 9) = some (.inl (z 1, 60, .inl (pSt (P6 G)))) := (f27 _ (by omega)).trans x21
        have x36 : h25 (rd + 10) = some (.inl (z 1, 60, .inl (Ar))) := (f27 _ (by omega)).trans x22
        have x37 : h25 tp = some (.inl (z 1, 200, .inl (tx))) := (f27 _ (by omega)).trans x23
        have x38 : h25 (rd + 8) = some (.inl (z 1, 360, .inl (upd (pBr (P6 G)) (6 * nd + j) (nI fs)))) := (f27 _ (by omega)).trans e11
        refine ax_vret hC hr hlocks dX8_addBranch_131 ?_
        exact ⟨rfl, fun q hq => ((f27 q (by omega)).trans (f12 q (by omega))), ⟨x28, x29, x30, x31, x32, e26, x33, x34, x38, x35, x36, x37⟩⟩
      · exact absurd (Int32.le_refl _) c8
    · exact absurd (nI_lt (a := nd) (b := 60) (by omega) (by decide)) c2
