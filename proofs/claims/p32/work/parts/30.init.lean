/-- a PROTOCOL's first n rows, copied -/
def CopyD (T T' : PT) (n : Nat) : Prop := pcap T' = n ∧ (∀ i, i < n → pK T' i = pK T i ∧ pS T' i = pS T i ∧ pLt T' i = pLt T i ∧ pLb T' i = pLb T i ∧ pDp T' i = pDp T i ∧ pIn T' i = pIn T i ∧ pSt T' i = pSt T i) ∧ ∀ i, i < 6 * n → pBr T' i = pBr T i
abbrev rmX7_init_ : Room := { frames := 2, cells := 8, slots := 2880, locals := 62 }
set_option maxRecDepth 100000 in
set_option maxHeartbeats 4000000 in
theorem c_X7_init_ (l : Launch) (D : va_G) (z : Nat → ClassId) (B : Heap) (lo hi : Nat) (h : Nat → Option va_E) (o a n : Nat) (nd : Int32) (T : PT) (ho : h o = some (.inr (9, [.int 0, .null, .null, .null, .null, .null, .null, .null, .null]))) (hP : PrC z h a (nI n) T) (hn : n ≤ pcap T) (hcap : pcap T ≤ 60) (hao : a + 9 ≤ o) (hhi : hi = o + 1) : Met l yX7_init_ wsX7_init_ rmX7_init_ (KP D vwCl B lo hi h (ty6 z) [.ref o, .ref a]) (KQv D vwCl B lo (ty6 z) (fun hi' h' => hi' = o + 9 ∧ (∀ q, q < o → h' q = h q) ∧ ∃ T', CopyD T T' n ∧ PrC z h' o (nI n) T')) 8 2880 (fun q => lo ≤ q) := by
  subst hhi
  refine ax_met (by decide) rfl (Nat.le_of_ble_eq_true rfl) (L0 := [(0, .ref o), (1, .ref a)]) rfl ?_
  intro p e s m args below meth c hC hr hlocks hnm hargs
  have iX7 : ∀ w ∈ u_ws RX7 TX7 9, w ∈ wsX7_init_ := by decide +kernel
  refine ax_aload_n hC 0 dX7_init__0 rfl rfl ?_
  refine ax_objInit hC (by decide +kernel) (by decide +kernel) (by decide +kernel) dX7_init__1 (Nat.le_of_ble_eq_true rfl) (Nat.le_of_ble_eq_true rfl) ?_
  refine ax_aload_n hC 1 dX7_init__4 rfl rfl ?_
  refine ax_getf (v := .int (nI n)) hC hP.1 iX7 rfl 0 (by decide) (by decide +kernel) rfl rfl dX7_init__5 ?_
  refine ax_if_ge (tgt := 15) hC dX7_init__8 (by decide) (fun c1 => ?_) (fun c1 => ?_)
  · refine ax_aload_n hC 1 dX7_init__15 rfl rfl ?_
    refine ax_getf (v := .int (nI n)) hC hP.1 iX7 rfl 0 (by decide) (by decide +kernel) rfl rfl dX7_init__16 ?_
    refine ax_bipush (v := 60) hC dX7_init__19 (by decide) ?_
    refine ax_icmp_le (tgt := 29) hC dX7_init__21 (by decide) (fun c2 => ?_) (fun c2 => ?_)
    · refine ax_aload_n hC 1 dX7_init__29 rfl rfl ?_
      refine ax_getf (v := .int (nI n)) hC hP.1 iX7 rfl 0 (by decide) (by decide +kernel) rfl rfl dX7_init__30 ?_
      refine ax_istore_n hC [(2, .int (nI n)), (0, .ref o), (1, .ref a)] dX7_init__33 rfl (by decide) rfl ?_
      refine ax_aload_n hC 1 dX7_init__34 rfl rfl ?_
      refine ax_iload_n hC 0 dX7_init__35 rfl rfl ?_
      refine ax_putf (v := .int (nI n)) (ty := .int) hC tyX7 ho iX7 tyX7_ok nmX7 rfl 0 (by decide) (by decide +kernel) rfl rfl (by decide +kernel) (rfl) rfl (Nat.le_of_ble_eq_true rfl) dX7_init__36 (fun h3 e4 f5 => ?_)
      have e4 : h3 o = some (.inr (9, [.int (nI n), .null, .null, .null, .null, .null, .null, .null, .null])) := e4
      have x6 : h3 a = some (.inr (9, [.int (nI n), .ref (a + 1), .ref (a + 2), .ref (a + 3), .ref (a + 4), .ref (a + 5), .ref (a + 6), .ref (a + 7), .ref (a + 8)])) := (f5 _ (by omega)).trans hP.1
      have x7 : h3 (a + 1) = some (.inl (z 1, pcap T, .inl (pK T))) := (f5 _ (by omega)).trans hP.2.1
      have x8 : h3 (a + 2) = some (.inl (z 1, pcap T, .inl (pS T))) := (f5 _ (by omega)).trans hP.2.2.1
      have x9 : h3 (a + 3) = some (.inl (z 1, pcap T, .inl (pLt T))) := (f5 _ (by omega)).trans hP.2.2.2.1
      have x10 : h3 (a + 4) = some (.inl (z 1, pcap T, .inl (pLb T))) := (f5 _ (by omega)).trans hP.2.2.2.2.1
      have x11 : h3 (a + 5) = some (.inl (z 1, pcap T, .inl (pDp T))) := (f5 _ (by omega)).trans hP.2.2.2.2.2.1
      have x12 : h3 (a + 6) = some (.inl (z 1, pcap T, .inl (pIn T))) := (f5 _ (by omega)).trans hP.2.2.2.2.2.2.1
      have x13 : h3 (a + 7) = some (.inl (z 1, 6 * pcap T, .inl (pBr T))) := (f5 _ (by omega)).trans hP.2.2.2.2.2.2.2.1
      have x14 : h3 (a + 8) = some (.inl (z 1, pcap T, .inl (pSt T))) := (f5 _ (by omega)).trans hP.2.2.2.2.2.2.2.2
      refine ax_aload_n hC 1 dX7_init__39 rfl rfl ?_
      refine ax_aload_n hC 2 dX7_init__40 rfl rfl ?_
      refine ax_getf (v := .ref (a + 1)) hC x6 iX7 rfl 1 (by decide) (by decide +kernel) rfl rfl dX7_init__41 ?_
      refine ax_iload_n hC 0 dX7_init__44 rfl rfl ?_
      refine ax_callSq (st := [.ref o]) hC [.ref (a + 1), .int (nI n)] (c_J7_copyOf_59c91 l D z B lo _ h3 (a + 1) n (pcap T) (pK T) x7 (by omega) (by omega)) (va_cwS 2 hC.1.2.2.2.2 gX7_init__J7_copyOf_59c91 rfl rfl rfl (by decide +kernel) ⟨Nat.le_of_ble_eq_true rfl, Nat.le_of_ble_eq_true rfl⟩) rfl rfl (Nat.le_of_ble_eq_true rfl) dX7_init__45 ⟨Nat.le_of_ble_eq_true rfl, Nat.le_of_ble_eq_true rfl⟩ (fun r15 hi16 h17 hp18 => ?_)
      obtain ⟨ei19, fr20, er21, fn22, ef23, vf24⟩ := hp18
      subst ei19
      subst er21
      have x25 : h17 a = some (.inr (9, [.int (nI n), .ref (a + 1), .ref (a + 2), .ref (a + 3), .ref (a + 4), .ref (a + 5), .ref (a + 6), .ref (a + 7), .ref (a + 8)])) := (fr20 _ (by omega)).trans x6
      have x26 : h17 (a + 1) = some (.inl (z 1, pcap T, .inl (pK T))) := (fr20 _ (by omega)).trans x7
      have x27 : h17 (a + 2) = some (.inl (z 1, pcap T, .inl (pS T))) := (fr20 _ (by omega)).trans x8
      have x28 : h17 (a + 3) = some (.inl (z 1, pcap T, .inl (pLt T))) := (fr20 _ (by omega)).trans x9
      have x29 : h17 (a + 4) = some (.inl (z 1, pcap T, .inl (pLb T))) := (fr20 _ (by omega)).trans x10
      have x30 : h17 (a + 5) = some (.inl (z 1, pcap T, .inl (pDp T))) := (fr20 _ (by omega)).trans x11
      have x31 : h17 (a + 6) = some (.inl (z 1, pcap T, .inl (pIn T))) := (fr20 _ (by omega)).trans x12
      have x32 : h17 (a + 7) = some (.inl (z 1, 6 * pcap T, .inl (pBr T))) := (fr20 _ (by omega)).trans x13
      have x33 : h17 (a + 8) = some (.inl (z 1, pcap T, .inl (pSt T))) := (fr20 _ (by omega)).trans x14
      have x34 : h17 o = some (.inr (9, [.int (nI n), .null, .null, .null, .null, .null, .null, .null, .null])) := (fr20 _ (by omega)).trans e4
      refine ax_putF (v := .ref (o + 1)) (ty := .array .int) hC tyX7 x34 iX7 tyX7_ok nmX7 rfl 1 (by decide) (by decide +kernel) rfl rfl hnm rfl (by decide +kernel) (rfl) rfl (Nat.le_of_ble_eq_true rfl) dX7_init__48 (fun h35 e36 f37 => ?_)
      have e36 : h35 o = some (.inr (9, [.int (nI n), .ref (o + 1), .null, .null, .null, .null, .null, .null, .null])) := e36
      have x38 : h35 a = some (.inr (9, [.int (nI n), .ref (a + 1), .ref (a + 2), .ref (a + 3), .ref (a + 4), .ref (a + 5), .ref (a + 6), .ref (a + 7), .ref (a + 8)])) := (f37 _ (by omega)).trans x25
      have x39 : h35 (a + 1) = some (.inl (z 1, pcap T, .inl (pK T))) := (f37 _ (by omega)).trans x26
      have x40 : h35 (a + 2) = some (.inl (z 1, pcap T, .inl (pS T))) := (f37 _ (by omega)).trans x27
      have x41 : h35 (a + 3) = some (.inl (z 1, pcap T, .inl (pLt T))) := (f37 _ (by omega)).trans x28
      have x42 : h35 (a + 4) = some (.inl (z 1, pcap T, .inl (pLb T))) := (f37 _ (by omega)).trans x29
      have x43 : h35 (a + 5) = some (.inl (z 1, pcap T, .inl (pDp T))) := (f37 _ (by omega)).trans x30
      have x44 : h35 (a + 6) = some (.inl (z 1, pcap T, .inl (pIn T))) := (f37 _ (by omega)).trans x31
      have x45 : h35 (a + 7) = some (.inl (z 1, 6 * pcap T, .inl (pBr T))) := (f37 _ (by omega)).trans x32
      have x46 : h35 (a + 8) = some (.inl (z 1, pcap T, .inl (pSt T))) := (f37 _ (by omega)).trans x33
      have x47 : h35 (o + 1) = some (.inl (z 1, n, .inl (fn22))) := (f37 _ (by omega)).trans ef23
      refine ax_aload_n hC 1 dX7_init__51 rfl rfl ?_
      refine ax_aload_n hC 2 dX7_init__52 rfl rfl ?_
      refine ax_getf (v := .ref (a + 2)) hC x38 iX7 rfl 2 (by decide) (by decide +kernel) rfl rfl dX7_init__53 ?_
      refine ax_iload_n hC 0 dX7_init__56 rfl rfl ?_
      refine ax_callSq (st := [.ref o]) hC [.ref (a + 2), .int (nI n)] (c_J7_copyOf_59c91 l D z B lo _ h35 (a + 2) n (pcap T) (pS T) x40 (by omega) (by omega)) (va_cwS 2 hC.1.2.2.2.2 gX7_init__J7_copyOf_59c91 rfl rfl rfl (by decide +kernel) ⟨Nat.le_of_ble_eq_true rfl, Nat.le_of_ble_eq_true rfl⟩) rfl rfl (Nat.le_of_ble_eq_true rfl) dX7_init__57 ⟨Nat.le_of_ble_eq_true rfl, Nat.le_of_ble_eq_true rfl⟩ (fun r48 hi49 h50 hp51 => ?_)
      obtain ⟨ei52, fr53, er54, fn55, ef56, vf57⟩ := hp51
      subst ei52
      subst er54
      have x58 : h50 a = some (.inr (9, [.int (nI n), .ref (a + 1), .ref (a + 2), .ref (a + 3), .ref (a + 4), .ref (a + 5), .ref (a + 6), .ref (a + 7), .ref (a + 8)])) := (fr53 _ (by omega)).trans x38
      have x59 : h50 (a + 1) = some (.inl (z 1, pcap T, .inl (pK T))) := (fr53 _ (by omega)).trans x39
      have x60 : h50 (a + 2) = some (.inl (z 1, pcap T, .inl (pS T))) := (fr53 _ (by omega)).trans x40
      have x61 : h50 (a + 3) = some (.inl (z 1, pcap T, .inl (pLt T))) := (fr53 _ (by omega)).trans x41
      have x62 : h50 (a + 4) = some (.inl (z 1, pcap T, .inl (pLb T))) := (fr53 _ (by omega)).trans x42
      have x63 : h50 (a + 5) = some (.inl (z 1, pcap T, .inl (pDp T))) := (fr53 _ (by omega)).trans x43
      have x64 : h50 (a + 6) = some (.inl (z 1, pcap T, .inl (pIn T))) := (fr53 _ (by omega)).trans x44
      have x65 : h50 (a + 7) = some (.inl (z 1, 6 * pcap T, .inl (pBr T))) := (fr53 _ (by omega)).trans x45
      have x66 : h50 (a + 8) = some (.inl (z 1, pcap T, .inl (pSt T))) := (fr53 _ (by omega)).trans x46
      have x67 : h50 (o + 1) = some (.inl (z 1, n, .inl (fn22))) := (fr53 _ (by omega)).trans x47
      have x68 : h50 o = some (.inr (9, [.int (nI n), .ref (o + 1), .null, .null, .null, .null, .null, .null, .null])) := (fr53 _ (by omega)).trans e36
      refine ax_putF (v := .ref (o + 1 + 1)) (ty := .array .int) hC tyX7 x68 iX7 tyX7_ok nmX7 rfl 2 (by decide) (by decide +kernel) rfl rfl hnm rfl (by decide +kernel) (rfl) rfl (Nat.le_of_ble_eq_true rfl) dX7_init__60 (fun h69 e70 f71 => ?_)
      have e70 : h69 o = some (.inr (9, [.int (nI n), .ref (o + 1), .ref (o + 1 + 1), .null, .null, .null, .null, .null, .null])) := e70
      have x72 : h69 a = some (.inr (9, [.int (nI n), .ref (a + 1), .ref (a + 2), .ref (a + 3), .ref (a + 4), .ref (a + 5), .ref (a + 6), .ref (a + 7), .ref (a + 8)])) := (f71 _ (by omega)).trans x58
      have x73 : h69 (a + 1) = some (.inl (z 1, pcap T, .inl (pK T))) := (f71 _ (by omega)).trans x59
      have x74 : h69 (a + 2) = some (.inl (z 1, pcap T, .inl (pS T))) := (f71 _ (by omega)).trans x60
      have x75 : h69 (a + 3) = some (.inl (z 1, pcap T, .inl (pLt T))) := (f71 _ (by omega)).trans x61
      have x76 : h69 (a + 4) = some (.inl (z 1, pcap T, .inl (pLb T))) := (f71 _ (by omega)).trans x62
      have x77 : h69 (a + 5) = some (.inl (z 1, pcap T, .inl (pDp T))) := (f71 _ (by omega)).trans x63
      have x78 : h69 (a + 6) = some (.inl (z 1, pcap T, .inl (pIn T))) := (f71 _ (by omega)).trans x64
      have x79 : h69 (a + 7) = some (.inl (z 1, 6 * pcap T, .inl (pBr T))) := (f71 _ (by omega)).trans x65
      have x80 : h69 (a + 8) = some (.inl (z 1, pcap T, .inl (pSt T))) := (f71 _ (by omega)).trans x66
      have x81 : h69 (o + 1) = some (.inl (z 1, n, .inl (fn22))) := (f71 _ (by omega)).trans x67
      have x82 : h69 (o + 1 + 1) = some (.inl (z 1, n, .inl (fn55))) := (f71 _ (by omega)).trans ef56
      refine ax_aload_n hC 1 dX7_init__63 rfl rfl ?_
      refine ax_aload_n hC 2 dX7_init__64 rfl rfl ?_
      refine ax_getf (v := .ref (a + 3)) hC x72 iX7 rfl 3 (by decide) (by decide +kernel) rfl rfl dX7_init__65 ?_
      refine ax_iload_n hC 0 dX7_init__68 rfl rfl ?_
      refine ax_callSq (st := [.ref o]) hC [.ref (a + 3), .int (nI n)] (c_J7_copyOf_59c91 l D z B lo _ h69 (a + 3) n (pcap T) (pLt T) x75 (by omega) (by omega)) (va_cwS 2 hC.1.2.2.2.2 gX7_init__J7_copyOf_59c91 rfl rfl rfl (by decide +kernel) ⟨Nat.le_of_ble_eq_true rfl, Nat.le_of_ble_eq_true rfl⟩) rfl rfl (Nat.le_of_ble_eq_true rfl) dX7_init__69 ⟨Nat.le_of_ble_eq_true rfl, Nat.le_of_ble_eq_true rfl⟩ (fun r83 hi84 h85 hp86 => ?_)
      obtain ⟨ei87, fr88, er89, fn90, ef91, vf92⟩ := hp86
      subst ei87
      subst er89
      have x93 : h85 a = some (.inr (9, [.int (nI n), .ref (a + 1), .ref (a + 2), .ref (a + 3), .ref (a + 4), .ref (a + 5), .ref (a + 6), .ref (a + 7), .ref (a + 8)])) := (fr88 _ (by omega)).trans x72
      have x94 : h85 (a + 1) = some (.inl (z 1, pcap T, .inl (pK T))) := (fr88 _ (by omega)).trans x73
      have x95 : h85 (a + 2) = some (.inl (z 1, pcap T, .inl (pS T))) := (fr88 _ (by omega)).trans x74
      have x96 : h85 (a + 3) = some (.inl (z 1, pcap T, .inl (pLt T))) := (fr88 _ (by omega)).trans x75
      have x97 : h85 (a + 4) = some (.inl (z 1, pcap T, .inl (pLb T))) := (fr88 _ (by omega)).trans x76
      have x98 : h85 (a + 5) = some (.inl (z 1, pcap T, .inl (pDp T))) := (fr88 _ (by omega)).trans x77
      have x99 : h85 (a + 6) = some (.inl (z 1, pcap T, .inl (pIn T))) := (fr88 _ (by omega)).trans x78
      have x100 : h85 (a + 7) = some (.inl (z 1, 6 * pcap T, .inl (pBr T))) := (fr88 _ (by omega)).trans x79
      have x101 : h85 (a + 8) = some (.inl (z 1, pcap T, .inl (pSt T))) := (fr88 _ (by omega)).trans x80
      have x102 : h85 (o + 1) = some (.inl (z 1, n, .inl (fn22))) := (fr88 _ (by omega)).trans x81
      have x103 : h85 (o + 1 + 1) = some (.inl (z 1, n, .inl (fn55))) := (fr88 _ (by omega)).trans x82
      have x104 : h85 o = some (.inr (9, [.int (nI n), .ref (o + 1), .ref (o + 1 + 1), .null, .null, .null, .null, .null, .null])) := (fr88 _ (by omega)).trans e70
      refine ax_putF (v := .ref (o + 1 + 2)) (ty := .array .int) hC tyX7 x104 iX7 tyX7_ok nmX7 rfl 3 (by decide) (by decide +kernel) rfl rfl hnm rfl (by decide +kernel) (rfl) rfl (Nat.le_of_ble_eq_true rfl) dX7_init__72 (fun h105 e106 f107 => ?_)
      have e106 : h105 o = some (.inr (9, [.int (nI n), .ref (o + 1), .ref (o + 1 + 1), .ref (o + 1 + 2), .null, .null, .null, .null, .null])) := e106
      have x108 : h105 a = some (.inr (9, [.int (nI n), .ref (a + 1), .ref (a + 2), .ref (a + 3), .ref (a + 4), .ref (a + 5), .ref (a + 6), .ref (a + 7), .ref (a + 8)])) := (f107 _ (by omega)).trans x93
      have x109 : h105 (a + 1) = some (.inl (z 1, pcap T, .inl (pK T))) := (f107 _ (by omega)).trans x94
      have x110 : h105 (a + 2) = some (.inl (z 1, pcap T, .inl (pS T))) := (f107 _ (by omega)).trans x95
      have x111 : h105 (a + 3) = some (.inl (z 1, pcap T, .inl (pLt T))) := (f107 _ (by omega)).trans x96
      have x112 : h105 (a + 4) = some (.inl (z 1, pcap T, .inl (pLb T))) := (f107 _ (by omega)).trans x97
      have x113 : h105 (a + 5) = some (.inl (z 1, pcap T, .inl (pDp T))) := (f107 _ (by omega)).trans x98
      have x114 : h105 (a + 6) = some (.inl (z 1, pcap T, .inl (pIn T))) := (f107 _ (by omega)).trans x99
      have x115 : h105 (a + 7) = some (.inl (z 1, 6 * pcap T, .inl (pBr T))) := (f107 _ (by omega)).trans x100
      have x116 : h105 (a + 8) = some (.inl (z 1, pcap T, .inl (pSt T))) := (f107 _ (by omega)).trans x101
      have x117 : h105 (o + 1) = some (.inl (z 1, n, .inl (fn22))) := (f107 _ (by omega)).trans x102
      have x118 : h105 (o + 1 + 1) = some (.inl (z 1, n, .inl (fn55))) := (f107 _ (by omega)).trans x103
      have x119 : h105 (o + 1 + 2) = some (.inl (z 1, n, .inl (fn90))) := (f107 _ (by omega)).trans ef91
      refine ax_aload_n hC 1 dX7_init__75 rfl rfl ?_
      refine ax_aload_n hC 2 dX7_init__76 rfl rfl ?_
      refine ax_getf (v := .ref (a + 4)) hC x108 iX7 rfl 4 (by decide) (by decide +kernel) rfl rfl dX7_init__77 ?_
      refine ax_iload_n hC 0 dX7_init__80 rfl rfl ?_
      refine ax_callSq (st := [.ref o]) hC [.ref (a + 4), .int (nI n)] (c_J7_copyOf_59c91 l D z B lo _ h105 (a + 4) n (pcap T) (pLb T) x112 (by omega) (by omega)) (va_cwS 2 hC.1.2.2.2.2 gX7_init__J7_copyOf_59c91 rfl rfl rfl (by decide +kernel) ⟨Nat.le_of_ble_eq_true rfl, Nat.le_of_ble_eq_true rfl⟩) rfl rfl (Nat.le_of_ble_eq_true rfl) dX7_init__81 ⟨Nat.le_of_ble_eq_true rfl, Nat.le_of_ble_eq_true rfl⟩ (fun r120 hi121 h122 hp123 => ?_)
      obtain ⟨ei124, fr125, er126, fn127, ef128, vf129⟩ := hp123
      subst ei124
      subst er126
      have x130 : h122 a = some (.inr (9, [.int (nI n), .ref (a + 1), .ref (a + 2), .ref (a + 3), .ref (a + 4), .ref (a + 5), .ref (a + 6), .ref (a + 7), .ref (a + 8)])) := (fr125 _ (by omega)).trans x108
      have x131 : h122 (a + 1) = some (.inl (z 1, pcap T, .inl (pK T))) := (fr125 _ (by omega)).trans x109
      have x132 : h122 (a + 2) = some (.inl (z 1, pcap T, .inl (pS T))) := (fr125 _ (by omega)).trans x110
      have x133 : h122 (a + 3) = some (.inl (z 1, pcap T, .inl (pLt T))) := (fr125 _ (by omega)).trans x111
      have x134 : h122 (a + 4) = some (.inl (z 1, pcap T, .inl (pLb T))) := (fr125 _ (by omega)).trans x112
      have x135 : h122 (a + 5) = some (.inl (z 1, pcap T, .inl (pDp T))) := (fr125 _ (by omega)).trans x113
      have x136 : h122 (a + 6) = some (.inl (z 1, pcap T, .inl (pIn T))) := (fr125 _ (by omega)).trans x114
      have x137 : h122 (a + 7) = some (.inl (z 1, 6 * pcap T, .inl (pBr T))) := (fr125 _ (by omega)).trans x115
      have x138 : h122 (a + 8) = some (.inl (z 1, pcap T, .inl (pSt T))) := (fr125 _ (by omega)).trans x116
      have x139 : h122 (o + 1) = some (.inl (z 1, n, .inl (fn22))) := (fr125 _ (by omega)).trans x117
      have x140 : h122 (o + 1 + 1) = some (.inl (z 1, n, .inl (fn55))) := (fr125 _ (by omega)).trans x118
      have x141 : h122 (o + 1 + 2) = some (.inl (z 1, n, .inl (fn90))) := (fr125 _ (by omega)).trans x119
      have x142 : h122 o = some (.inr (9, [.int (nI n), .ref (o + 1), .ref (o + 1 + 1), .ref (o + 1 + 2), .null, .null, .null, .null, .null])) := (fr125 _ (by omega)).trans e106
      refine ax_putF (v := .ref (o + 1 + 3)) (ty := .array .int) hC tyX7 x142 iX7 tyX7_ok nmX7 rfl 4 (by decide) (by decide +kernel) rfl rfl hnm rfl (by decide +kernel) (rfl) rfl (Nat.le_of_ble_eq_true rfl) dX7_init__84 (fun h143 e144 f145 => ?_)
      have e144 : h143 o = some (.inr (9, [.int (nI n), .ref (o + 1), .ref (o + 1 + 1), .ref (o + 1 + 2), .ref (o + 1 + 3), .null, .null, .null, .null])) := e144
      have x146 : h143 a = some (.inr (9, [.int (nI n), .ref (a + 1), .ref (a + 2), .ref (a + 3), .ref (a + 4), .ref (a + 5), .ref (a + 6), .ref (a + 7), .ref (a + 8)])) := (f145 _ (by omega)).trans x130
      have x147 : h143 (a + 1) = some (.inl (z 1, pcap T, .inl (pK T))) := (f145 _ (by omega)).trans x131
      have x148 : h143 (a + 2) = some (.inl (z 1, pcap T, .inl (pS T))) := (f145 _ (by omega)).trans x132
      have x149 : h143 (a + 3) = some (.inl (z 1, pcap T, .inl (pLt T))) := (f145 _ (by omega)).trans x133
      have x150 : h143 (a + 4) = some (.inl (z 1, pcap T, .inl (pLb T))) := (f145 _ (by omega)).trans x134
      have x151 : h143 (a + 5) = some (.inl (z 1, pcap T, .inl (pDp T))) := (f145 _ (by omega)).trans x135
      have x152 : h143 (a + 6) = some (.inl (z 1, pcap T, .inl (pIn T))) := (f145 _ (by omega)).trans x136
      have x153 : h143 (a + 7) = some (.inl (z 1, 6 * pcap T, .inl (pBr T))) := (f145 _ (by omega)).trans x137
      have x154 : h143 (a + 8) = some (.inl (z 1, pcap T, .inl (pSt T))) := (f145 _ (by omega)).trans x138
      have x155 : h143 (o + 1) = some (.inl (z 1, n, .inl (fn22))) := (f145 _ (by omega)).trans x139
      have x156 : h143 (o + 1 + 1) = some (.inl (z 1, n, .inl (fn55))) := (f145 _ (by omega)).trans x140
      have x157 : h143 (o + 1 + 2) = some (.inl (z 1, n, .inl (fn90))) := (f145 _ (by omega)).trans x141
      have x158 : h143 (o + 1 + 3) = some (.inl (z 1, n, .inl (fn127))) := (f145 _ (by omega)).trans ef128
      refine ax_aload_n hC 1 dX7_init__87 rfl rfl ?_
      refine ax_aload_n hC 2 dX7_init__88 rfl rfl ?_
      refine ax_getf (v := .ref (a + 5)) hC x146 iX7 rfl 5 (by decide) (by decide +kernel) rfl rfl dX7_init__89 ?_
      refine ax_iload_n hC 0 dX7_init__92 rfl rfl ?_
      refine ax_callSq (st := [.ref o]) hC [.ref (a + 5), .int (nI n)] (c_J7_copyOf_59c91 l D z B lo _ h143 (a + 5) n (pcap T) (pDp T) x151 (by omega) (by omega)) (va_cwS 2 hC.1.2.2.2.2 gX7_init__J7_copyOf_59c91 rfl rfl rfl (by decide +kernel) ⟨Nat.le_of_ble_eq_true rfl, Nat.le_of_ble_eq_true rfl⟩) rfl rfl (Nat.le_of_ble_eq_true rfl) dX7_init__93 ⟨Nat.le_of_ble_eq_true rfl, Nat.le_of_ble_eq_true rfl⟩ (fun r159 hi160 h161 hp162 => ?_)
      obtain ⟨ei163, fr164, er165, fn166, ef167, vf168⟩ := hp162
      subst ei163
      subst er165
      have x169 : h161 a = some (.inr (9, [.int (nI n), .ref (a + 1), .ref (a + 2), .ref (a + 3), .ref (a + 4), .ref (a + 5), .ref (a + 6), .ref (a + 7), .ref (a + 8)])) := (fr164 _ (by omega)).trans x146
      have x170 : h161 (a + 1) = some (.inl (z 1, pcap T, .inl (pK T))) := (fr164 _ (by omega)).trans x147
      have x171 : h161 (a + 2) = some (.inl (z 1, pcap T, .inl (pS T))) := (fr164 _ (by omega)).trans x148
      have x172 : h161 (a + 3) = some (.inl (z 1, pcap T, .inl (pLt T))) := (fr164 _ (by omega)).trans x149
      have x173 : h161 (a + 4) = some (.inl (z 1, pcap T, .inl (pLb T))) := (fr164 _ (by omega)).trans x150
      have x174 : h161 (a + 5) = some (.inl (z 1, pcap T, .inl (pDp T))) := (fr164 _ (by omega)).trans x151
      have x175 : h161 (a + 6) = some (.inl (z 1, pcap T, .inl (pIn T))) := (fr164 _ (by omega)).trans x152
      have x176 : h161 (a + 7) = some (.inl (z 1, 6 * pcap T, .inl (pBr T))) := (fr164 _ (by omega)).trans x153
      have x177 : h161 (a + 8) = some (.inl (z 1, pcap T, .inl (pSt T))) := (fr164 _ (by omega)).trans x154
      have x178 : h161 (o + 1) = some (.inl (z 1, n, .inl (fn22))) := (fr164 _ (by omega)).trans x155
      have x179 : h161 (o + 1 + 1) = some (.inl (z 1, n, .inl (fn55))) := (fr164 _ (by omega)).trans x156
      have x180 : h161 (o + 1 + 2) = some (.inl (z 1, n, .inl (fn90))) := (fr164 _ (by omega)).trans x157
      have x181 : h161 (o + 1 + 3) = some (.inl (z 1, n, .inl (fn127))) := (fr164 _ (by omega)).trans x158
      have x182 : h161 o = some (.inr (9, [.int (nI n), .ref (o + 1), .ref (o + 1 + 1), .ref (o + 1 + 2), .ref (o + 1 + 3), .null, .null, .null, .null])) := (fr164 _ (by omega)).trans e144
      refine ax_putF (v := .ref (o + 1 + 4)) (ty := .array .int) hC tyX7 x182 iX7 tyX7_ok nmX7 rfl 5 (by decide) (by decide +kernel) rfl rfl hnm rfl (by decide +kernel) (rfl) rfl (Nat.le_of_ble_eq_true rfl) dX7_init__96 (fun h183 e184 f185 => ?_)
      have e184 : h183 o = some (.inr (9, [.int (nI n), .ref (o + 1), .ref (o + 1 + 1), .ref (o + 1 + 2), .ref (o + 1 + 3), .ref (o + 1 + 4), .null, .null, .null])) := e184
      have x186 : h183 a = some (.inr (9, [.int (nI n), .ref (a + 1), .ref (a + 2), .ref (a + 3), .ref (a + 4), .ref (a + 5), .ref (a + 6), .ref (a + 7), .ref (a + 8)])) := (f185 _ (by omega)).trans x169
      have x187 : h183 (a + 1) = some (.inl (z 1, pcap T, .inl (pK T))) := (f185 _ (by omega)).trans x170
      have x188 : h183 (a + 2) = some (.inl (z 1, pcap T, .inl (pS T))) := (f185 _ (by omega)).trans x171
      have x189 : h183 (a + 3) = some (.inl (z 1, pcap T, .inl (pLt T))) := (f185 _ (by omega)).trans x172
      have x190 : h183 (a + 4) = some (.inl (z 1, pcap T, .inl (pLb T))) := (f185 _ (by omega)).trans x173
      have x191 : h183 (a + 5) = some (.inl (z 1, pcap T, .inl (pDp T))) := (f185 _ (by omega)).trans x174
      have x192 : h183 (a + 6) = some (.inl (z 1, pcap T, .inl (pIn T))) := (f185 _ (by omega)).trans x175
      have x193 : h183 (a + 7) = some (.inl (z 1, 6 * pcap T, .inl (pBr T))) := (f185 _ (by omega)).trans x176
      have x194 : h183 (a + 8) = some (.inl (z 1, pcap T, .inl (pSt T))) := (f185 _ (by omega)).trans x177
      have x195 : h183 (o + 1) = some (.inl (z 1, n, .inl (fn22))) := (f185 _ (by omega)).trans x178
      have x196 : h183 (o + 1 + 1) = some (.inl (z 1, n, .inl (fn55))) := (f185 _ (by omega)).trans x179
      have x197 : h183 (o + 1 + 2) = some (.inl (z 1, n, .inl (fn90))) := (f185 _ (by omega)).trans x180
      have x198 : h183 (o + 1 + 3) = some (.inl (z 1, n, .inl (fn127))) := (f185 _ (by omega)).trans x181
      have x199 : h183 (o + 1 + 4) = some (.inl (z 1, n, .inl (fn166))) := (f185 _ (by omega)).trans ef167
      refine ax_aload_n hC 1 dX7_init__99 rfl rfl ?_
      refine ax_aload_n hC 2 dX7_init__100 rfl rfl ?_
      refine ax_getf (v := .ref (a + 6)) hC x186 iX7 rfl 6 (by decide) (by decide +kernel) rfl rfl dX7_init__101 ?_
      refine ax_iload_n hC 0 dX7_init__104 rfl rfl ?_
      refine ax_callSq (st := [.ref o]) hC [.ref (a + 6), .int (nI n)] (c_J7_copyOf_59c91 l D z B lo _ h183 (a + 6) n (pcap T) (pIn T) x192 (by omega) (by omega)) (va_cwS 2 hC.1.2.2.2.2 gX7_init__J7_copyOf_59c91 rfl rfl rfl (by decide +kernel) ⟨Nat.le_of_ble_eq_true rfl, Nat.le_of_ble_eq_true rfl⟩) rfl rfl (Nat.le_of_ble_eq_true rfl) dX7_init__105 ⟨Nat.le_of_ble_eq_true rfl, Nat.le_of_ble_eq_true rfl⟩ (fun r200 hi201 h202 hp203 => ?_)
      obtain ⟨ei204, fr205, er206, fn207, ef208, vf209⟩ := hp203
      subst ei204
      subst er206
      have x210 : h202 a = some (.inr (9, [.int (nI n), .ref (a + 1), .ref (a + 2), .ref (a + 3), .ref (a + 4), .ref (a + 5), .ref (a + 6), .ref (a + 7), .ref (a + 8)])) := (fr205 _ (by omega)).trans x186
      have x211 : h202 (a + 1) = some (.inl (z 1, pcap T, .inl (pK T))) := (fr205 _ (by omega)).trans x187
      have x212 : h202 (a + 2) = some (.inl (z 1, pcap T, .inl (pS T))) := (fr205 _ (by omega)).trans x188
      have x213 : h202 (a + 3) = some (.inl (z 1, pcap T, .inl (pLt T))) := (fr205 _ (by omega)).trans x189
      have x214 : h202 (a + 4) = some (.inl (z 1, pcap T, .inl (pLb T))) := (fr205 _ (by omega)).trans x190
      have x215 : h202 (a + 5) = some (.inl (z 1, pcap T, .inl (pDp T))) := (fr205 _ (by omega)).trans x191
      have x216 : h202 (a + 6) = some (.inl (z 1, pcap T, .inl (pIn T))) := (fr205 _ (by omega)).trans x192
      have x217 : h202 (a + 7) = some (.inl (z 1, 6 * pcap T, .inl (pBr T))) := (fr205 _ (by omega)).trans x193
      have x218 : h202 (a + 8) = some (.inl (z 1, pcap T, .inl (pSt T))) := (fr205 _ (by omega)).trans x194
      have x219 : h202 (o + 1) = some (.inl (z 1, n, .inl (fn22))) := (fr205 _ (by omega)).trans x195
      have x220 : h202 (o + 1 + 1) = some (.inl (z 1, n, .inl (fn55))) := (fr205 _ (by omega)).trans x196
      have x221 : h202 (o + 1 + 2) = some (.inl (z 1, n, .inl (fn90))) := (fr205 _ (by omega)).trans x197
      have x222 : h202 (o + 1 + 3) = some (.inl (z 1, n, .inl (fn127))) := (fr205 _ (by omega)).trans x198
      have x223 : h202 (o + 1 + 4) = some (.inl (z 1, n, .inl (fn166))) := (fr205 _ (by omega)).trans x199
      have x224 : h202 o = some (.inr (9, [.int (nI n), .ref (o + 1), .ref (o + 1 + 1), .ref (o + 1 + 2), .ref (o + 1 + 3), .ref (o + 1 + 4), .null, .null, .null])) := (fr205 _ (by omega)).trans e184
      refine ax_putF (v := .ref (o + 1 + 5)) (ty := .array .int) hC tyX7 x224 iX7 tyX7_ok nmX7 rfl 6 (by decide) (by decide +kernel) rfl rfl hnm rfl (by decide +kernel) (rfl) rfl (Nat.le_of_ble_eq_true rfl) dX7_init__108 (fun h225 e226 f227 => ?_)
      have e226 : h225 o = some (.inr (9, [.int (nI n), .ref (o + 1), .ref (o + 1 + 1), .ref (o + 1 + 2), .ref (o + 1 + 3), .ref (o + 1 + 4), .ref (o + 1 + 5), .null, .null])) := e226
      have x228 : h225 a = some (.inr (9, [.int (nI n), .ref (a + 1), .ref (a + 2), .ref (a + 3), .ref (a + 4), .ref (a + 5), .ref (a + 6), .ref (a + 7), .ref (a + 8)])) := (f227 _ (by omega)).trans x210
      have x229 : h225 (a + 1) = some (.inl (z 1, pcap T, .inl (pK T))) := (f227 _ (by omega)).trans x211
      have x230 : h225 (a + 2) = some (.inl (z 1, pcap T, .inl (pS T))) := (f227 _ (by omega)).trans x212
      have x231 : h225 (a + 3) = some (.inl (z 1, pcap T, .inl (pLt T))) := (f227 _ (by omega)).trans x213
      have x232 : h225 (a + 4) = some (.inl (z 1, pcap T, .inl (pLb T))) := (f227 _ (by omega)).trans x214
      have x233 : h225 (a + 5) = some (.inl (z 1, pcap T, .inl (pDp T))) := (f227 _ (by omega)).trans x215
      have x234 : h225 (a + 6) = some (.inl (z 1, pcap T, .inl (pIn T))) := (f227 _ (by omega)).trans x216
      have x235 : h225 (a + 7) = some (.inl (z 1, 6 * pcap T, .inl (pBr T))) := (f227 _ (by omega)).trans x217
      have x236 : h225 (a + 8) = some (.inl (z 1, pcap T, .inl (pSt T))) := (f227 _ (by omega)).trans x218
      have x237 : h225 (o + 1) = some (.inl (z 1, n, .inl (fn22))) := (f227 _ (by omega)).trans x219
      have x238 : h225 (o + 1 + 1) = some (.inl (z 1, n, .inl (fn55))) := (f227 _ (by omega)).trans x220
      have x239 : h225 (o + 1 + 2) = some (.inl (z 1, n, .inl (fn90))) := (f227 _ (by omega)).trans x221
      have x240 : h225 (o + 1 + 3) = some (.inl (z 1, n, .inl (fn127))) := (f227 _ (by omega)).trans x222
      have x241 : h225 (o + 1 + 4) = some (.inl (z 1, n, .inl (fn166))) := (f227 _ (by omega)).trans x223
      have x242 : h225 (o + 1 + 5) = some (.inl (z 1, n, .inl (fn207))) := (f227 _ (by omega)).trans ef208
      refine ax_aload_n hC 1 dX7_init__111 rfl rfl ?_
      refine ax_aload_n hC 2 dX7_init__112 rfl rfl ?_
      refine ax_getf (v := .ref (a + 7)) hC x228 iX7 rfl 7 (by decide) (by decide +kernel) rfl rfl dX7_init__113 ?_
      refine ax_iload_n hC 0 dX7_init__116 rfl rfl ?_
      refine ax_bipush (v := 6) hC dX7_init__117 (by decide) ?_
      refine ax_imul hC dX7_init__119 ?_
      refine ax_eqi (y := nI (6 * n)) (by rw [Nat.mul_comm]; exact nI_mul' n 6) ?_
      refine ax_callSq (st := [.ref o]) hC [.ref (a + 7), .int (nI (6 * n))] (c_J7_copyOf_59c91 l D z B lo _ h225 (a + 7) (6 * n) (6 * pcap T) (pBr T) x235 (by omega) (by omega)) (va_cwS 2 hC.1.2.2.2.2 gX7_init__J7_copyOf_59c91 rfl rfl rfl (by decide +kernel) ⟨Nat.le_of_ble_eq_true rfl, Nat.le_of_ble_eq_true rfl⟩) rfl rfl (Nat.le_of_ble_eq_true rfl) dX7_init__120 ⟨Nat.le_of_ble_eq_true rfl, Nat.le_of_ble_eq_true rfl⟩ (fun r243 hi244 h245 hp246 => ?_)
      obtain ⟨ei247, fr248, er249, fn250, ef251, vf252⟩ := hp246
      subst ei247
      subst er249
      have x253 : h245 a = some (.inr (9, [.int (nI n), .ref (a + 1), .ref (a + 2), .ref (a + 3), .ref (a + 4), .ref (a + 5), .ref (a + 6), .ref (a + 7), .ref (a + 8)])) := (fr248 _ (by omega)).trans x228
      have x254 : h245 (a + 1) = some (.inl (z 1, pcap T, .inl (pK T))) := (fr248 _ (by omega)).trans x229
      have x255 : h245 (a + 2) = some (.inl (z 1, pcap T, .inl (pS T))) := (fr248 _ (by omega)).trans x230
      have x256 : h245 (a + 3) = some (.inl (z 1, pcap T, .inl (pLt T))) := (fr248 _ (by omega)).trans x231
      have x257 : h245 (a + 4) = some (.inl (z 1, pcap T, .inl (pLb T))) := (fr248 _ (by omega)).trans x232
      have x258 : h245 (a + 5) = some (.inl (z 1, pcap T, .inl (pDp T))) := (fr248 _ (by omega)).trans x233
      have x259 : h245 (a + 6) = some (.inl (z 1, pcap T, .inl (pIn T))) := (fr248 _ (by omega)).trans x234
      have x260 : h245 (a + 7) = some (.inl (z 1, 6 * pcap T, .inl (pBr T))) := (fr248 _ (by omega)).trans x235
      have x261 : h245 (a + 8) = some (.inl (z 1, pcap T, .inl (pSt T))) := (fr248 _ (by omega)).trans x236
      have x262 : h245 (o + 1) = some (.inl (z 1, n, .inl (fn22))) := (fr248 _ (by omega)).trans x237
      have x263 : h245 (o + 1 + 1) = some (.inl (z 1, n, .inl (fn55))) := (fr248 _ (by omega)).trans x238
      have x264 : h245 (o + 1 + 2) = some (.inl (z 1, n, .inl (fn90))) := (fr248 _ (by omega)).trans x239
      have x265 : h245 (o + 1 + 3) = some (.inl (z 1, n, .inl (fn127))) := (fr248 _ (by omega)).trans x240
      have x266 : h245 (o + 1 + 4) = some (.inl (z 1, n, .inl (fn166))) := (fr248 _ (by omega)).trans x241
      have x267 : h245 (o + 1 + 5) = some (.inl (z 1, n, .inl (fn207))) := (fr248 _ (by omega)).trans x242
      have x268 : h245 o = some (.inr (9, [.int (nI n), .ref (o + 1), .ref (o + 1 + 1), .ref (o + 1 + 2), .ref (o + 1 + 3), .ref (o + 1 + 4), .ref (o + 1 + 5), .null, .null])) := (fr248 _ (by omega)).trans e226
      refine ax_putF (v := .ref (o + 1 + 6)) (ty := .array .int) hC tyX7 x268 iX7 tyX7_ok nmX7 rfl 7 (by decide) (by decide +kernel) rfl rfl hnm rfl (by decide +kernel) (rfl) rfl (Nat.le_of_ble_eq_true rfl) dX7_init__123 (fun h269 e270 f271 => ?_)
      have e270 : h269 o = some (.inr (9, [.int (nI n), .ref (o + 1), .ref (o + 1 + 1), .ref (o + 1 + 2), .ref (o + 1 + 3), .ref (o + 1 + 4), .ref (o + 1 + 5), .ref (o + 1 + 6), .null])) := e270
      have x272 : h269 a = some (.inr (9, [.int (nI n), .ref (a + 1), .ref (a + 2), .ref (a + 3), .ref (a + 4), .ref (a + 5), .ref (a + 6), .ref (a + 7), .ref (a + 8)])) := (f271 _ (by omega)).trans x253
      have x273 : h269 (a + 1) = some (.inl (z 1, pcap T, .inl (pK T))) := (f271 _ (by omega)).trans x254
      have x274 : h269 (a + 2) = some (.inl (z 1, pcap T, .inl (pS T))) := (f271 _ (by omega)).trans x255
      have x275 : h269 (a + 3) = some (.inl (z 1, pcap T, .inl (pLt T))) := (f271 _ (by omega)).trans x256
      have x276 : h269 (a + 4) = some (.inl (z 1, pcap T, .inl (pLb T))) := (f271 _ (by omega)).trans x257
      have x277 : h269 (a + 5) = some (.inl (z 1, pcap T, .inl (pDp T))) := (f271 _ (by omega)).trans x258
      have x278 : h269 (a + 6) = some (.inl (z 1, pcap T, .inl (pIn T))) := (f271 _ (by omega)).trans x259
      have x279 : h269 (a + 7) = some (.inl (z 1, 6 * pcap T, .inl (pBr T))) := (f271 _ (by omega)).trans x260
      have x280 : h269 (a + 8) = some (.inl (z 1, pcap T, .inl (pSt T))) := (f271 _ (by omega)).trans x261
      have x281 : h269 (o + 1) = some (.inl (z 1, n, .inl (fn22))) := (f271 _ (by omega)).trans x262
      have x282 : h269 (o + 1 + 1) = some (.inl (z 1, n, .inl (fn55))) := (f271 _ (by omega)).trans x263
      have x283 : h269 (o + 1 + 2) = some (.inl (z 1, n, .inl (fn90))) := (f271 _ (by omega)).trans x264
      have x284 : h269 (o + 1 + 3) = some (.inl (z 1, n, .inl (fn127))) := (f271 _ (by omega)).trans x265
      have x285 : h269 (o + 1 + 4) = some (.inl (z 1, n, .inl (fn166))) := (f271 _ (by omega)).trans x266
      have x286 : h269 (o + 1 + 5) = some (.inl (z 1, n, .inl (fn207))) := (f271 _ (by omega)).trans x267
      have x287 : h269 (o + 1 + 6) = some (.inl (z 1, 6 * n, .inl (fn250))) := (f271 _ (by omega)).trans ef251
      refine ax_aload_n hC 1 dX7_init__126 rfl rfl ?_
      refine ax_aload_n hC 2 dX7_init__127 rfl rfl ?_
      refine ax_getf (v := .ref (a + 8)) hC x272 iX7 rfl 8 (by decide) (by decide +kernel) rfl rfl dX7_init__128 ?_
      refine ax_iload_n hC 0 dX7_init__131 rfl rfl ?_
      refine ax_callSq (st := [.ref o]) hC [.ref (a + 8), .int (nI n)] (c_J7_copyOf_59c91 l D z B lo _ h269 (a + 8) n (pcap T) (pSt T) x280 (by omega) (by omega)) (va_cwS 2 hC.1.2.2.2.2 gX7_init__J7_copyOf_59c91 rfl rfl rfl (by decide +kernel) ⟨Nat.le_of_ble_eq_true rfl, Nat.le_of_ble_eq_true rfl⟩) rfl rfl (Nat.le_of_ble_eq_true rfl) dX7_init__132 ⟨Nat.le_of_ble_eq_true rfl, Nat.le_of_ble_eq_true rfl⟩ (fun r288 hi289 h290 hp291 => ?_)
      obtain ⟨ei292, fr293, er294, fn295, ef296, vf297⟩ := hp291
      subst ei292
      subst er294
      have x298 : h290 a = some (.inr (9, [.int (nI n), .ref (a + 1), .ref (a + 2), .ref (a + 3), .ref (a + 4), .ref (a + 5), .ref (a + 6), .ref (a + 7), .ref (a + 8)])) := (fr293 _ (by omega)).trans x272
      have x299 : h290 (a + 1) = some (.inl (z 1, pcap T, .inl (pK T))) := (fr293 _ (by omega)).trans x273
      have x300 : h290 (a + 2) = some (.inl (z 1, pcap T, .inl (pS T))) := (fr293 _ (by omega)).trans x274
      have x301 : h290 (a + 3) = some (.inl (z 1, pcap T, .inl (pLt T))) := (fr293 _ (by omega)).trans x275
      have x302 : h290 (a + 4) = some (.inl (z 1, pcap T, .inl (pLb T))) := (fr293 _ (by omega)).trans x276
      have x303 : h290 (a + 5) = some (.inl (z 1, pcap T, .inl (pDp T))) := (fr293 _ (by omega)).trans x277
      have x304 : h290 (a + 6) = some (.inl (z 1, pcap T, .inl (pIn T))) := (fr293 _ (by omega)).trans x278
      have x305 : h290 (a + 7) = some (.inl (z 1, 6 * pcap T, .inl (pBr T))) := (fr293 _ (by omega)).trans x279
      have x306 : h290 (a + 8) = some (.inl (z 1, pcap T, .inl (pSt T))) := (fr293 _ (by omega)).trans x280
      have x307 : h290 (o + 1) = some (.inl (z 1, n, .inl (fn22))) := (fr293 _ (by omega)).trans x281
      have x308 : h290 (o + 1 + 1) = some (.inl (z 1, n, .inl (fn55))) := (fr293 _ (by omega)).trans x282
      have x309 : h290 (o + 1 + 2) = some (.inl (z 1, n, .inl (fn90))) := (fr293 _ (by omega)).trans x283
      have x310 : h290 (o + 1 + 3) = some (.inl (z 1, n, .inl (fn127))) := (fr293 _ (by omega)).trans x284
      have x311 : h290 (o + 1 + 4) = some (.inl (z 1, n, .inl (fn166))) := (fr293 _ (by omega)).trans x285
      have x312 : h290 (o + 1 + 5) = some (.inl (z 1, n, .inl (fn207))) := (fr293 _ (by omega)).trans x286
      have x313 : h290 (o + 1 + 6) = some (.inl (z 1, 6 * n, .inl (fn250))) := (fr293 _ (by omega)).trans x287
      have x314 : h290 o = some (.inr (9, [.int (nI n), .ref (o + 1), .ref (o + 1 + 1), .ref (o + 1 + 2), .ref (o + 1 + 3), .ref (o + 1 + 4), .ref (o + 1 + 5), .ref (o + 1 + 6), .null])) := (fr293 _ (by omega)).trans e270
      refine ax_putF (v := .ref (o + 1 + 7)) (ty := .array .int) hC tyX7 x314 iX7 tyX7_ok nmX7 rfl 8 (by decide) (by decide +kernel) rfl rfl hnm rfl (by decide +kernel) (rfl) rfl (Nat.le_of_ble_eq_true rfl) dX7_init__135 (fun h315 e316 f317 => ?_)
      have e316 : h315 o = some (.inr (9, [.int (nI n), .ref (o + 1), .ref (o + 1 + 1), .ref (o + 1 + 2), .ref (o + 1 + 3), .ref (o + 1 + 4), .ref (o + 1 + 5), .ref (o + 1 + 6), .ref (o + 1 + 7)])) := e316
      have x318 : h315 a = some (.inr (9, [.int (nI n), .ref (a + 1), .ref (a + 2), .ref (a + 3), .ref (a + 4), .ref (a + 5), .ref (a + 6), .ref (a + 7), .ref (a + 8)])) := (f317 _ (by omega)).trans x298
      have x319 : h315 (a + 1) = some (.inl (z 1, pcap T, .inl (pK T))) := (f317 _ (by omega)).trans x299
      have x320 : h315 (a + 2) = some (.inl (z 1, pcap T, .inl (pS T))) := (f317 _ (by omega)).trans x300
      have x321 : h315 (a + 3) = some (.inl (z 1, pcap T, .inl (pLt T))) := (f317 _ (by omega)).trans x301
      have x322 : h315 (a + 4) = some (.inl (z 1, pcap T, .inl (pLb T))) := (f317 _ (by omega)).trans x302
      have x323 : h315 (a + 5) = some (.inl (z 1, pcap T, .inl (pDp T))) := (f317 _ (by omega)).trans x303
      have x324 : h315 (a + 6) = some (.inl (z 1, pcap T, .inl (pIn T))) := (f317 _ (by omega)).trans x304
      have x325 : h315 (a + 7) = some (.inl (z 1, 6 * pcap T, .inl (pBr T))) := (f317 _ (by omega)).trans x305
      have x326 : h315 (a + 8) = some (.inl (z 1, pcap T, .inl (pSt T))) := (f317 _ (by omega)).trans x306
      have x327 : h315 (o + 1) = some (.inl (z 1, n, .inl (fn22))) := (f317 _ (by omega)).trans x307
      have x328 : h315 (o + 1 + 1) = some (.inl (z 1, n, .inl (fn55))) := (f317 _ (by omega)).trans x308
      have x329 : h315 (o + 1 + 2) = some (.inl (z 1, n, .inl (fn90))) := (f317 _ (by omega)).trans x309
      have x330 : h315 (o + 1 + 3) = some (.inl (z 1, n, .inl (fn127))) := (f317 _ (by omega)).trans x310
      have x331 : h315 (o + 1 + 4) = some (.inl (z 1, n, .inl (fn166))) := (f317 _ (by omega)).trans x311
      have x332 : h315 (o + 1 + 5) = some (.inl (z 1, n, .inl (fn207))) := (f317 _ (by omega)).trans x312
      have x333 : h315 (o + 1 + 6) = some (.inl (z 1, 6 * n, .inl (fn250))) := (f317 _ (by omega)).trans x313
      have x334 : h315 (o + 1 + 7) = some (.inl (z 1, n, .inl (fn295))) := (f317 _ (by omega)).trans ef296
      refine ax_widen (k := 8) (n := 2880) (by omega) (by omega) ?_
      refine ax_vret hC hr hlocks dX7_init__138 ?_
      exact ⟨rfl, fun q hq => ((f317 q (by omega)).trans ((fr293 q (by omega)).trans ((f271 q (by omega)).trans ((fr248 q (by omega)).trans ((f227 q (by omega)).trans ((fr205 q (by omega)).trans ((f185 q (by omega)).trans ((fr164 q (by omega)).trans ((f145 q (by omega)).trans ((fr125 q (by omega)).trans ((f107 q (by omega)).trans ((fr88 q (by omega)).trans ((f71 q (by omega)).trans ((fr53 q (by omega)).trans ((f37 q (by omega)).trans ((fr20 q (by omega)).trans (f5 q (by omega)))))))))))))))))), (n, fn22, fn55, fn90, fn127, fn166, fn207, fn250, fn295), ⟨rfl, fun i hi9 => ⟨vf24 i hi9, vf57 i hi9, vf92 i hi9, vf129 i hi9, vf168 i hi9, vf209 i hi9, vf297 i hi9⟩, fun i hi9 => vf252 i hi9⟩, e316, x327, x328, x329, x330, x331, x332, x333, x334⟩
    · exact absurd ((nI_leL (v := 60) (k := 60) (by decide) (by omega)).mpr (by omega)) c2
  · exact absurd (nI_pos' (by omega)) c1
