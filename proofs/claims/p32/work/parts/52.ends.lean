theorem nI_97 (j : Nat) : nI (97 + j) - 97 = nI j := by
  rw [show 97 + j = j + 97 by omega, ← nI_add]
  exact Int32.add_sub_cancel _ _
abbrev rmX2_kind : Room := { frames := 1, cells := 0, slots := 0, locals := 21 }
set_option maxRecDepth 100000 in
set_option maxHeartbeats 4000000 in
theorem c_X2_kind (l : Launch) (D : va_G) (z : Nat → ClassId) (B : Heap) (lo hi : Nat) (h : Nat → Option va_E) (ea a n : Nat) (hld en es ly mo nd9 : Int32) (lf : Nat → Int32) (T : PT) (hE : EndS z h ea hld (some a) (nI n) en es ly mo lf) (hP : PrC z h a nd9 T) (hcap : pcap T ≤ 60) (hn : n < pcap T) : Met l yX2_kind wsX2_kind rmX2_kind (KP D vwCl B lo hi h (ty6 z) [.ref ea]) (KQp D vwCl B lo hi h (ty6 z) (fun r => r = pK T n)) 0 0 (fun q => lo ≤ q) := by
  refine ax_met (by decide) rfl (Nat.le_of_ble_eq_true rfl) (L0 := [(0, .ref ea)]) rfl ?_
  intro p e s m args below meth c hC hr hlocks hnm hargs
  have iX2 : ∀ w ∈ u_ws RX2 TX2 8, w ∈ wsX2_kind := by decide +kernel
  refine ax_aload_n hC 0 dX2_kind_0 rfl rfl ?_
  refine ax_getf (v := .ref a) hC hE.1 iX2 rfl 1 (by decide) (by decide +kernel) rfl rfl dX2_kind_1 ?_
  refine ax_ifnonnull (tgt := 11) hC dX2_kind_4 (by decide) ?_
  refine ax_aload_n hC 0 dX2_kind_11 rfl rfl ?_
  refine ax_getf (v := .ref a) hC hE.1 iX2 rfl 1 (by decide) (by decide +kernel) rfl rfl dX2_kind_12 ?_
  refine ax_aload_n hC 0 dX2_kind_15 rfl rfl ?_
  refine ax_getf (v := .int (nI n)) hC hE.1 iX2 rfl 2 (by decide) (by decide +kernel) rfl rfl dX2_kind_16 ?_
  refine ax_callVp (st := []) hC [.int (nI n)] hP.1 rfl (c_X7_kindOf l D z B lo _ h a _ T (nI n) hP hcap) (cwV 1 hC.1.2.2.2.2 gX2_kind_X7_kindOf rfl rfl rfl (by decide +kernel) ⟨Nat.le_of_ble_eq_true rfl, Nat.le_of_ble_eq_true rfl⟩) rfl rfl (Nat.le_of_ble_eq_true rfl) dX2_kind_19 ⟨Nat.le_of_ble_eq_true rfl, Nat.le_of_ble_eq_true rfl⟩ (fun r1 er2 => ?_)
  subst er2
  refine ax_eqi (y := pK T n) (rd_nat hn (by omega)) ?_
  refine ax_iret hC hr hlocks dX2_kind_22 ?_
  exact ⟨rfl, rfl, rfl⟩

abbrev rmX2_labels : Room := { frames := 1, cells := 0, slots := 0, locals := 21 }
set_option maxRecDepth 100000 in
set_option maxHeartbeats 4000000 in
theorem c_X2_labels (l : Launch) (D : va_G) (z : Nat → ClassId) (B : Heap) (lo hi : Nat) (h : Nat → Option va_E) (ea a n : Nat) (hld en es ly mo nd9 : Int32) (lf : Nat → Int32) (T : PT) (hE : EndS z h ea hld (some a) (nI n) en es ly mo lf) (hP : PrC z h a nd9 T) (hcap : pcap T ≤ 60) (hn : n < pcap T) : Met l yX2_labels wsX2_labels rmX2_labels (KP D vwCl B lo hi h (ty6 z) [.ref ea]) (KQp D vwCl B lo hi h (ty6 z) (fun r => r = pLb T n)) 0 0 (fun q => lo ≤ q) := by
  refine ax_met (by decide) rfl (Nat.le_of_ble_eq_true rfl) (L0 := [(0, .ref ea)]) rfl ?_
  intro p e s m args below meth c hC hr hlocks hnm hargs
  have iX2 : ∀ w ∈ u_ws RX2 TX2 8, w ∈ wsX2_labels := by decide +kernel
  refine ax_aload_n hC 0 dX2_labels_0 rfl rfl ?_
  refine ax_getf (v := .ref a) hC hE.1 iX2 rfl 1 (by decide) (by decide +kernel) rfl rfl dX2_labels_1 ?_
  refine ax_ifnonnull (tgt := 11) hC dX2_labels_4 (by decide) ?_
  refine ax_aload_n hC 0 dX2_labels_11 rfl rfl ?_
  refine ax_getf (v := .ref a) hC hE.1 iX2 rfl 1 (by decide) (by decide +kernel) rfl rfl dX2_labels_12 ?_
  refine ax_aload_n hC 0 dX2_labels_15 rfl rfl ?_
  refine ax_getf (v := .int (nI n)) hC hE.1 iX2 rfl 2 (by decide) (by decide +kernel) rfl rfl dX2_labels_16 ?_
  refine ax_callVp (st := []) hC [.int (nI n)] hP.1 rfl (c_X7_labelsOf l D z B lo _ h a _ T (nI n) hP hcap) (cwV 1 hC.1.2.2.2.2 gX2_labels_X7_labelsOf rfl rfl rfl (by decide +kernel) ⟨Nat.le_of_ble_eq_true rfl, Nat.le_of_ble_eq_true rfl⟩) rfl rfl (Nat.le_of_ble_eq_true rfl) dX2_labels_19 ⟨Nat.le_of_ble_eq_true rfl, Nat.le_of_ble_eq_true rfl⟩ (fun r1 er2 => ?_)
  subst er2
  refine ax_eqi (y := pLb T n) (rd_nat hn (by omega)) ?_
  refine ax_iret hC hr hlocks dX2_labels_22 ?_
  exact ⟨rfl, rfl, rfl⟩

abbrev rmX2_isAtBrackets : Room := { frames := 1, cells := 0, slots := 0, locals := 21 }
set_option maxRecDepth 100000 in
set_option maxHeartbeats 4000000 in
theorem c_X2_isAtBrackets (l : Launch) (D : va_G) (z : Nat → ClassId) (B : Heap) (lo hi : Nat) (h : Nat → Option va_E) (ea a n : Nat) (hld en es ly mo nd9 : Int32) (lf : Nat → Int32) (T : PT) (hE : EndS z h ea hld (some a) (nI n) en es ly mo lf) (hP : PrC z h a nd9 T) (hcap : pcap T ≤ 60) (hn : n < pcap T) : Met l yX2_isAtBrackets wsX2_isAtBrackets rmX2_isAtBrackets (KP D vwCl B lo hi h (ty6 z) [.ref ea]) (KQp D vwCl B lo hi h (ty6 z) (fun r => r = if pS T n = 40 then 1 else 0)) 0 0 (fun q => lo ≤ q) := by
  refine ax_met (by decide) rfl (Nat.le_of_ble_eq_true rfl) (L0 := [(0, .ref ea)]) rfl ?_
  intro p e s m args below meth c hC hr hlocks hnm hargs
  have iX2 : ∀ w ∈ u_ws RX2 TX2 8, w ∈ wsX2_isAtBrackets := by decide +kernel
  refine ax_aload_n hC 0 dX2_isAtBrackets_0 rfl rfl ?_
  refine ax_getf (v := .ref a) hC hE.1 iX2 rfl 1 (by decide) (by decide +kernel) rfl rfl dX2_isAtBrackets_1 ?_
  refine ax_ifnull hC dX2_isAtBrackets_4 ?_
  refine ax_aload_n hC 0 dX2_isAtBrackets_7 rfl rfl ?_
  refine ax_getf (v := .ref a) hC hE.1 iX2 rfl 1 (by decide) (by decide +kernel) rfl rfl dX2_isAtBrackets_8 ?_
  refine ax_aload_n hC 0 dX2_isAtBrackets_11 rfl rfl ?_
  refine ax_getf (v := .int (nI n)) hC hE.1 iX2 rfl 2 (by decide) (by decide +kernel) rfl rfl dX2_isAtBrackets_12 ?_
  refine ax_callVp (st := []) hC [.int (nI n)] hP.1 rfl (c_X7_sortOf l D z B lo _ h a _ T (nI n) hP hcap) (cwV 1 hC.1.2.2.2.2 gX2_isAtBrackets_X7_sortOf rfl rfl rfl (by decide +kernel) ⟨Nat.le_of_ble_eq_true rfl, Nat.le_of_ble_eq_true rfl⟩) rfl rfl (Nat.le_of_ble_eq_true rfl) dX2_isAtBrackets_15 ⟨Nat.le_of_ble_eq_true rfl, Nat.le_of_ble_eq_true rfl⟩ (fun r1 er2 => ?_)
  subst er2
  refine ax_eqi (y := pS T n) (rd_nat hn (by omega)) ?_
  refine ax_bipush (v := 40) hC dX2_isAtBrackets_18 (by decide) ?_
  refine ax_icmp_ne (tgt := 27) hC dX2_isAtBrackets_20 (by decide) (fun c3 => ?_) (fun c3 => ?_)
  · refine ax_iconst (v := 0) hC dX2_isAtBrackets_27 (by decide) ?_
    refine ax_zret hC hr hlocks dX2_isAtBrackets_28 (by decide) ?_
    exact ⟨(if_neg c3).symm, rfl, rfl⟩
  · refine ax_iconst (v := 1) hC dX2_isAtBrackets_23 (by decide) ?_
    refine ax_goto (tgt := 28) hC dX2_isAtBrackets_24 (by decide) ?_
    refine ax_zret hC hr hlocks dX2_isAtBrackets_28 (by decide) ?_
    exact ⟨(if_pos c3).symm, rfl, rfl⟩

abbrev rmX2_maySay : Room := { frames := 1, cells := 0, slots := 0, locals := 21 }
set_option maxRecDepth 100000 in
set_option maxHeartbeats 4000000 in
theorem c_X2_maySay_0 (l : Launch) (D : va_G) (z : Nat → ClassId) (B : Heap) (lo hi : Nat) (h : Nat → Option va_E) (ea a n : Nat) (hld en es ly mo nd9 : Int32) (lf : Nat → Int32) (T : PT) (hE : EndS z h ea hld (some a) (nI n) en es ly mo lf) (hP : PrC z h a nd9 T) (hcap : pcap T ≤ 60) (hn : n < pcap T) : Met l yX2_maySay wsX2_maySay rmX2_maySay (KP D vwCl B lo hi h (ty6 z) [.ref ea, .int 0]) (KQp D vwCl B lo hi h (ty6 z) (fun r => r = 1)) 0 0 (fun q => lo ≤ q) := by
  refine ax_met (by decide) rfl (Nat.le_of_ble_eq_true rfl) (L0 := [(0, .ref ea), (1, .int 0)]) rfl ?_
  intro p e s m args below meth c hC hr hlocks hnm hargs
  have iX2 : ∀ w ∈ u_ws RX2 TX2 8, w ∈ wsX2_maySay := by decide +kernel
  refine ax_aload_n hC 0 dX2_maySay_0 rfl rfl ?_
  refine ax_getf (v := .ref a) hC hE.1 iX2 rfl 1 (by decide) (by decide +kernel) rfl rfl dX2_maySay_1 ?_
  refine ax_ifnull hC dX2_maySay_4 ?_
  refine ax_iload_n hC 1 dX2_maySay_7 rfl rfl ?_
  refine ax_if_lt (tgt := 42) hC dX2_maySay_8 (by decide) (fun c1 => ?_) (fun c1 => ?_)
  · exact absurd c1 (by decide)
  · refine ax_iload_n hC 1 dX2_maySay_11 rfl rfl ?_
    refine ax_aload_n hC 0 dX2_maySay_12 rfl rfl ?_
    refine ax_getf (v := .ref a) hC hE.1 iX2 rfl 1 (by decide) (by decide +kernel) rfl rfl dX2_maySay_13 ?_
    refine ax_aload_n hC 0 dX2_maySay_16 rfl rfl ?_
    refine ax_getf (v := .int (nI n)) hC hE.1 iX2 rfl 2 (by decide) (by decide +kernel) rfl rfl dX2_maySay_17 ?_
    refine ax_callVp (st := [.int 0]) hC [.int (nI n)] hP.1 rfl (c_X7_sortOf l D z B lo _ h a _ T (nI n) hP hcap) (cwV 1 hC.1.2.2.2.2 gX2_maySay_X7_sortOf rfl rfl rfl (by decide +kernel) ⟨Nat.le_of_ble_eq_true rfl, Nat.le_of_ble_eq_true rfl⟩) rfl rfl (Nat.le_of_ble_eq_true rfl) dX2_maySay_20 ⟨Nat.le_of_ble_eq_true rfl, Nat.le_of_ble_eq_true rfl⟩ (fun r2 er3 => ?_)
    subst er3
    refine ax_eqi (y := pS T n) (rd_nat hn (by omega)) ?_
    refine ax_bipush (v := 98) hC dX2_maySay_23 (by decide) ?_
    refine ax_icmp_ne (tgt := 32) hC dX2_maySay_25 (by decide) (fun c4 => ?_) (fun c4 => ?_)
    · refine ax_sipush (v := 999) hC dX2_maySay_32 (by decide) ?_
      refine ax_icmp_gt (tgt := 42) hC dX2_maySay_35 (by decide) (fun c5 => ?_) (fun c5 => ?_)
      · exact absurd c5 (by decide)
      · refine ax_iconst (v := 1) hC dX2_maySay_38 (by decide) ?_
        refine ax_goto (tgt := 43) hC dX2_maySay_39 (by decide) ?_
        refine ax_zret hC hr hlocks dX2_maySay_43 (by decide) ?_
        exact ⟨rfl, rfl, rfl⟩
    · refine ax_iconst (v := 1) hC dX2_maySay_28 (by decide) ?_
      refine ax_goto (tgt := 35) hC dX2_maySay_29 (by decide) ?_
      refine ax_icmp_gt (tgt := 42) hC dX2_maySay_35 (by decide) (fun c6 => ?_) (fun c6 => ?_)
      · exact absurd c6 (by decide)
      · refine ax_iconst (v := 1) hC dX2_maySay_38 (by decide) ?_
        refine ax_goto (tgt := 43) hC dX2_maySay_39 (by decide) ?_
        refine ax_zret hC hr hlocks dX2_maySay_43 (by decide) ?_
        exact ⟨rfl, rfl, rfl⟩

set_option maxRecDepth 100000 in
set_option maxHeartbeats 4000000 in
theorem c_X2_maySay_1 (l : Launch) (D : va_G) (z : Nat → ClassId) (B : Heap) (lo hi : Nat) (h : Nat → Option va_E) (ea a n : Nat) (hld en es ly mo nd9 : Int32) (lf : Nat → Int32) (T : PT) (hE : EndS z h ea hld (some a) (nI n) en es ly mo lf) (hP : PrC z h a nd9 T) (hcap : pcap T ≤ 60) (hn : n < pcap T) : Met l yX2_maySay wsX2_maySay rmX2_maySay (KP D vwCl B lo hi h (ty6 z) [.ref ea, .int 1]) (KQp D vwCl B lo hi h (ty6 z) (fun r => r = 1)) 0 0 (fun q => lo ≤ q) := by
  refine ax_met (by decide) rfl (Nat.le_of_ble_eq_true rfl) (L0 := [(0, .ref ea), (1, .int 1)]) rfl ?_
  intro p e s m args below meth c hC hr hlocks hnm hargs
  have iX2 : ∀ w ∈ u_ws RX2 TX2 8, w ∈ wsX2_maySay := by decide +kernel
  refine ax_aload_n hC 0 dX2_maySay_0 rfl rfl ?_
  refine ax_getf (v := .ref a) hC hE.1 iX2 rfl 1 (by decide) (by decide +kernel) rfl rfl dX2_maySay_1 ?_
  refine ax_ifnull hC dX2_maySay_4 ?_
  refine ax_iload_n hC 1 dX2_maySay_7 rfl rfl ?_
  refine ax_if_lt (tgt := 42) hC dX2_maySay_8 (by decide) (fun c1 => ?_) (fun c1 => ?_)
  · exact absurd c1 (by decide)
  · refine ax_iload_n hC 1 dX2_maySay_11 rfl rfl ?_
    refine ax_aload_n hC 0 dX2_maySay_12 rfl rfl ?_
    refine ax_getf (v := .ref a) hC hE.1 iX2 rfl 1 (by decide) (by decide +kernel) rfl rfl dX2_maySay_13 ?_
    refine ax_aload_n hC 0 dX2_maySay_16 rfl rfl ?_
    refine ax_getf (v := .int (nI n)) hC hE.1 iX2 rfl 2 (by decide) (by decide +kernel) rfl rfl dX2_maySay_17 ?_
    refine ax_callVp (st := [.int 1]) hC [.int (nI n)] hP.1 rfl (c_X7_sortOf l D z B lo _ h a _ T (nI n) hP hcap) (cwV 1 hC.1.2.2.2.2 gX2_maySay_X7_sortOf rfl rfl rfl (by decide +kernel) ⟨Nat.le_of_ble_eq_true rfl, Nat.le_of_ble_eq_true rfl⟩) rfl rfl (Nat.le_of_ble_eq_true rfl) dX2_maySay_20 ⟨Nat.le_of_ble_eq_true rfl, Nat.le_of_ble_eq_true rfl⟩ (fun r2 er3 => ?_)
    subst er3
    refine ax_eqi (y := pS T n) (rd_nat hn (by omega)) ?_
    refine ax_bipush (v := 98) hC dX2_maySay_23 (by decide) ?_
    refine ax_icmp_ne (tgt := 32) hC dX2_maySay_25 (by decide) (fun c4 => ?_) (fun c4 => ?_)
    · refine ax_sipush (v := 999) hC dX2_maySay_32 (by decide) ?_
      refine ax_icmp_gt (tgt := 42) hC dX2_maySay_35 (by decide) (fun c5 => ?_) (fun c5 => ?_)
      · exact absurd c5 (by decide)
      · refine ax_iconst (v := 1) hC dX2_maySay_38 (by decide) ?_
        refine ax_goto (tgt := 43) hC dX2_maySay_39 (by decide) ?_
        refine ax_zret hC hr hlocks dX2_maySay_43 (by decide) ?_
        exact ⟨rfl, rfl, rfl⟩
    · refine ax_iconst (v := 1) hC dX2_maySay_28 (by decide) ?_
      refine ax_goto (tgt := 35) hC dX2_maySay_29 (by decide) ?_
      refine ax_icmp_gt (tgt := 42) hC dX2_maySay_35 (by decide) (fun c6 => ?_) (fun c6 => ?_)
      · exact absurd c6 (by decide)
      · refine ax_iconst (v := 1) hC dX2_maySay_38 (by decide) ?_
        refine ax_goto (tgt := 43) hC dX2_maySay_39 (by decide) ?_
        refine ax_zret hC hr hlocks dX2_maySay_43 (by decide) ?_
        exact ⟨rfl, rfl, rfl⟩

abbrev rmX2_mayPick : Room := { frames := 2, cells := 0, slots := 0, locals := 41 }
set_option maxRecDepth 100000 in
set_option maxHeartbeats 4000000 in
theorem c_X2_mayPick (l : Launch) (D : va_G) (z : Nat → ClassId) (B : Heap) (lo hi : Nat) (h : Nat → Option va_E) (ea a n : Nat) (hld en es ly mo nd9 : Int32) (lf : Nat → Int32) (T : PT) (j : Nat) (hE : EndS z h ea hld (some a) (nI n) en es ly mo lf) (hP : PrC z h a nd9 T) (hcap : pcap T ≤ 60) (hn : n < pcap T) (hj : j < 26) (hb : ¬ (pLb T n >>> (nI j &&& 31)) &&& 1 = 0) : Met l yX2_mayPick wsX2_mayPick rmX2_mayPick (KP D vwCl B lo hi h (ty6 z) [.ref ea, .int (nI (97 + j))]) (KQp D vwCl B lo hi h (ty6 z) (fun r => r = 1)) 0 0 (fun q => lo ≤ q) := by
  refine ax_met (by decide) rfl (Nat.le_of_ble_eq_true rfl) (L0 := [(0, .ref ea), (1, .int (nI (97 + j)))]) rfl ?_
  intro p e s m args below meth c hC hr hlocks hnm hargs
  refine ax_iload_n hC 1 dX2_mayPick_0 rfl rfl ?_
  refine ax_bipush (v := 97) hC dX2_mayPick_1 (by decide) ?_
  refine ax_icmp_lt (tgt := 30) hC dX2_mayPick_3 (by decide) (fun c1 => ?_) (fun c1 => ?_)
  · exact absurd c1 (by rw [i32_lt, nI_toInt (by omega)]; have : (97 : Int32).toInt = 97 := (by decide); omega)
  · refine ax_iload_n hC 1 dX2_mayPick_6 rfl rfl ?_
    refine ax_bipush (v := 122) hC dX2_mayPick_7 (by decide) ?_
    refine ax_icmp_gt (tgt := 30) hC dX2_mayPick_9 (by decide) (fun c2 => ?_) (fun c2 => ?_)
    · exact absurd c2 (by rw [i32_lt, nI_toInt (by omega)]; have : (122 : Int32).toInt = 122 := (by decide); omega)
    · refine ax_aload_n hC 0 dX2_mayPick_12 rfl rfl ?_
      refine ax_callVp (st := []) hC [] hE.1 rfl (c_X2_labels l D z B lo _ h ea a n hld en es ly mo nd9 lf T hE hP hcap hn) (cwV 0 hC.1.2.2.2.2 gX2_mayPick_X2_labels rfl rfl rfl (by decide +kernel) ⟨Nat.le_of_ble_eq_true rfl, Nat.le_of_ble_eq_true rfl⟩) rfl rfl (Nat.le_of_ble_eq_true rfl) dX2_mayPick_13 ⟨Nat.le_of_ble_eq_true rfl, Nat.le_of_ble_eq_true rfl⟩ (fun r3 er4 => ?_)
      subst er4
      refine ax_iload_n hC 1 dX2_mayPick_16 rfl rfl ?_
      refine ax_bipush (v := 97) hC dX2_mayPick_17 (by decide) ?_
      refine ax_isub hC dX2_mayPick_19 ?_
      refine ax_eqi (y := nI j) (nI_97 j) ?_
      refine ax_ishr hC dX2_mayPick_20 ?_
      refine ax_iconst (v := 1) hC dX2_mayPick_21 (by decide) ?_
      refine ax_iand hC dX2_mayPick_22 ?_
      refine ax_if_eq (tgt := 30) hC dX2_mayPick_23 (by decide) (fun c5 => ?_) (fun c5 => ?_)
      · exact absurd c5 hb
      · refine ax_iconst (v := 1) hC dX2_mayPick_26 (by decide) ?_
        refine ax_goto (tgt := 31) hC dX2_mayPick_27 (by decide) ?_
        refine ax_zret hC hr hlocks dX2_mayPick_31 (by decide) ?_
        exact ⟨rfl, rfl, rfl⟩

abbrev rmX2_put : Room := { frames := 1, cells := 0, slots := 0, locals := 40 }
set_option maxRecDepth 100000 in
set_option maxHeartbeats 4000000 in
theorem c_X2_put (l : Launch) (D : va_G) (z : Nat → ClassId) (B : Heap) (lo hi : Nat) (h : Nat → Option va_E) (ea q9 : Nat) (hld nd en es mo : Int32) (tk : Option Nat) (lf : Nat → Int32) (x : Int32) (hE : EndS z h ea hld tk nd en es (nI q9) mo lf) (hq : q9 < 4) : Met l yX2_put wsX2_put rmX2_put (KP D vwCl B lo hi h (ty6 z) [.ref ea, .int x]) (KQv D vwCl B lo (ty6 z) (fun hi' h' => hi' = hi ∧ (∀ q, (q < ea ∨ ea + 2 ≤ q) → h' q = h q) ∧ ∃ mo', EndS z h' ea hld tk nd en es (nI (q9 + 1)) mo' (upd lf q9 x))) 0 0 (fun q => lo ≤ q) := by
  refine ax_met (by decide) rfl (Nat.le_of_ble_eq_true rfl) (L0 := [(0, .ref ea), (1, .int x)]) rfl ?_
  intro p e s m args below meth c hC hr hlocks hnm hargs
  have iX2 : ∀ w ∈ u_ws RX2 TX2 8, w ∈ wsX2_put := by decide +kernel
  refine ax_aload_n hC 0 dX2_put_0 rfl rfl ?_
  refine ax_getf (v := .int (nI q9)) hC hE.1 iX2 rfl 5 (by decide) (by decide +kernel) rfl rfl dX2_put_1 ?_
  refine ax_if_lt (tgt := 19) hC dX2_put_4 (by decide) (fun c1 => ?_) (fun c1 => ?_)
  · exact absurd c1 (nI_pos (by omega))
  · refine ax_aload_n hC 0 dX2_put_7 rfl rfl ?_
    refine ax_getf (v := .int (nI q9)) hC hE.1 iX2 rfl 5 (by decide) (by decide +kernel) rfl rfl dX2_put_8 ?_
    refine ax_aload_n hC 0 dX2_put_11 rfl rfl ?_
    refine ax_getf (v := .ref (ea + 1)) hC hE.1 iX2 rfl 7 (by decide) (by decide +kernel) rfl rfl dX2_put_12 ?_
    refine ax_alen (v := 4) hC hE.2 1 rfl rfl dX2_put_15 ?_
    refine ax_icmp_lt (tgt := 20) hC dX2_put_16 (by decide) (fun c2 => ?_) (fun c2 => ?_)
    · refine ax_aload_n hC 0 dX2_put_20 rfl rfl ?_
      refine ax_getf (v := .ref (ea + 1)) hC hE.1 iX2 rfl 7 (by decide) (by decide +kernel) rfl rfl dX2_put_21 ?_
      refine ax_aload_n hC 0 dX2_put_24 rfl rfl ?_
      refine ax_getf (v := .int (nI q9)) hC hE.1 iX2 rfl 5 (by decide) (by decide +kernel) rfl rfl dX2_put_25 ?_
      refine ax_iload_n hC 1 dX2_put_28 rfl rfl ?_
      have b3 : vp_in (nI q9) 4 := vp_in_nI (by omega) (by omega)
      refine ax_iast hC hE.2 1 rfl b3 dX2_put_29 (fun h4 e5 f6 => ?_)
      rw [nI_clamp (by omega)] at e5
      have x7 : h4 ea = some (.inr (4, [.int hld, va_rf tk, .int nd, .int en, .int es, .int (nI q9), .int mo, .ref (ea + 1)])) := (f6 _ (by omega)).trans hE.1
      refine ax_aload_n hC 0 dX2_put_30 rfl rfl ?_
      refine ax_dup hC dX2_put_31 rfl ?_
      refine ax_getf (v := .int (nI q9)) hC x7 iX2 rfl 5 (by decide) (by decide +kernel) rfl rfl dX2_put_32 ?_
      refine ax_iconst (v := 1) hC dX2_put_35 (by decide) ?_
      refine ax_iadd hC dX2_put_36 ?_
      refine ax_eqi (y := nI (q9 + 1)) (nI_1 q9) ?_
      refine ax_putf (v := .int (nI (q9 + 1))) (ty := .int) hC tyX2 x7 iX2 tyX2_ok nmX2 rfl 5 (by decide) (by decide +kernel) rfl rfl (by decide +kernel) (rfl) rfl (Nat.le_of_ble_eq_true rfl) dX2_put_37 (fun h8 e9 f10 => ?_)
      have e9 : h8 ea = some (.inr (4, [.int hld, va_rf tk, .int nd, .int en, .int es, .int (nI (q9 + 1)), .int mo, .ref (ea + 1)])) := e9
      have x11 : h8 (ea + 1) = some (.inl (z 1, 4, .inl (upd lf q9 x))) := (f10 _ (by omega)).trans e5
      refine ax_aload_n hC 0 dX2_put_40 rfl rfl ?_
      refine ax_aload_n hC 0 dX2_put_41 rfl rfl ?_
      refine ax_getf (v := .int mo) hC e9 iX2 rfl 6 (by decide) (by decide +kernel) rfl rfl dX2_put_42 ?_
      refine ax_aload_n hC 0 dX2_put_45 rfl rfl ?_
      refine ax_getf (v := .int (nI (q9 + 1))) hC e9 iX2 rfl 5 (by decide) (by decide +kernel) rfl rfl dX2_put_46 ?_
      refine ax_mmax hC (by decide +kernel) (by decide +kernel) (by decide +kernel) (by decide +kernel) (Nat.le_of_ble_eq_true rfl) (Nat.le_of_ble_eq_true rfl) (Nat.le_of_ble_eq_true rfl) (Nat.le_of_ble_eq_true rfl) dX2_put_49 ?_
      refine ax_putf (v := .int (if mo < (nI (q9 + 1)) then (nI (q9 + 1)) else mo)) (ty := .int) hC tyX2 e9 iX2 tyX2_ok nmX2 rfl 6 (by decide) (by decide +kernel) rfl rfl (by decide +kernel) (rfl) rfl (Nat.le_of_ble_eq_true rfl) dX2_put_52 (fun h12 e13 f14 => ?_)
      have e13 : h12 ea = some (.inr (4, [.int hld, va_rf tk, .int nd, .int en, .int es, .int (nI (q9 + 1)), .int (if mo < (nI (q9 + 1)) then (nI (q9 + 1)) else mo), .ref (ea + 1)])) := e13
      have x15 : h12 (ea + 1) = some (.inl (z 1, 4, .inl (upd lf q9 x))) := (f14 _ (by omega)).trans x11
      refine ax_vret hC hr hlocks dX2_put_55 ?_
      exact ⟨rfl, fun q hq => ((f14 q (by omega)).trans ((f10 q (by omega)).trans (f6 q (by omega)))), _, e13, x15⟩
    · exact absurd (nI_lt (a := q9) (b := 4) (by omega) (by decide)) c2

theorem drw (lf : Nat → Int32) : ∀ j, j < 3 → upd (upd (upd lf (0 : Int32).toNatClampNeg (lf (1 : Int32).toNatClampNeg)) (1 : Int32).toNatClampNeg (upd lf (0 : Int32).toNatClampNeg (lf (1 : Int32).toNatClampNeg) (2 : Int32).toNatClampNeg)) (2 : Int32).toNatClampNeg (upd (upd lf (0 : Int32).toNatClampNeg (lf (1 : Int32).toNatClampNeg)) (1 : Int32).toNatClampNeg (upd lf (0 : Int32).toNatClampNeg (lf (1 : Int32).toNatClampNeg) (2 : Int32).toNatClampNeg) (3 : Int32).toNatClampNeg) j = lf (j + 1) := by
  have e0 : (0 : Int32).toNatClampNeg = 0 := rfl
  have e1 : (1 : Int32).toNatClampNeg = 1 := rfl
  have e2 : (2 : Int32).toNatClampNeg = 2 := rfl
  have e3 : (3 : Int32).toNatClampNeg = 3 := rfl
  intro j hj
  rw [e0, e1, e2, e3]
  rcases (show j = 0 ∨ j = 1 ∨ j = 2 by omega) with rfl | rfl | rfl <;> simp [upd]
abbrev rmX2_draw : Room := { frames := 0, cells := 0, slots := 0, locals := 0 }
set_option maxRecDepth 100000 in
set_option maxHeartbeats 4000000 in
theorem c_X2_draw (l : Launch) (D : va_G) (z : Nat → ClassId) (B : Heap) (lo hi : Nat) (h : Nat → Option va_E) (ea q9 : Nat) (hld nd en es mo : Int32) (tk : Option Nat) (lf : Nat → Int32) (hE : EndS z h ea hld tk nd en es (nI (q9 + 1)) mo lf) (hq : q9 < 4) : Met l yX2_draw wsX2_draw rmX2_draw (KP D vwCl B lo hi h (ty6 z) [.ref ea]) (KQi D vwCl B lo (ty6 z) (fun r hi' h' => r = lf 0 ∧ hi' = hi ∧ (∀ q, (q < ea ∨ ea + 2 ≤ q) → h' q = h q) ∧ ∃ lf', EndS z h' ea hld tk nd en es (nI q9) mo lf' ∧ ∀ j, j < 3 → lf' j = lf (j + 1))) 0 0 (fun q => lo ≤ q) := by
  refine ax_met (by decide) rfl (Nat.le_of_ble_eq_true rfl) (L0 := [(0, .ref ea)]) rfl ?_
  intro p e s m args below meth c hC hr hlocks hnm hargs
  have iX2 : ∀ w ∈ u_ws RX2 TX2 8, w ∈ wsX2_draw := by decide +kernel
  refine ax_aload_n hC 0 dX2_draw_0 rfl rfl ?_
  refine ax_getf (v := .int (nI (q9 + 1))) hC hE.1 iX2 rfl 5 (by decide) (by decide +kernel) rfl rfl dX2_draw_1 ?_
  refine ax_if_gt (tgt := 9) hC dX2_draw_4 (by decide) (fun c1 => ?_) (fun c1 => ?_)
  · refine ax_aload_n hC 0 dX2_draw_9 rfl rfl ?_
    refine ax_getf (v := .ref (ea + 1)) hC hE.1 iX2 rfl 7 (by decide) (by decide +kernel) rfl rfl dX2_draw_10 ?_
    refine ax_iconst (v := 0) hC dX2_draw_13 (by decide) ?_
    have b2 : vp_in 0 4 := vp_in_iff.mpr (by decide)
    refine ax_iald hC hE.2 1 rfl b2 dX2_draw_14 ?_
    refine ax_istore_n hC [(1, .int (lf (0 : Int32).toNatClampNeg)), (0, .ref ea)] dX2_draw_15 rfl (by decide) rfl ?_
    refine ax_iconst (v := 1) hC dX2_draw_16 (by decide) ?_
    refine ax_istore_n hC [(2, .int 1), (1, .int (lf (0 : Int32).toNatClampNeg)), (0, .ref ea)] dX2_draw_17 rfl (by decide) rfl ?_
    refine ax_iload_n hC 0 dX2_draw_18 rfl rfl ?_
    refine ax_aload_n hC 2 dX2_draw_19 rfl rfl ?_
    refine ax_getf (v := .ref (ea + 1)) hC hE.1 iX2 rfl 7 (by decide) (by decide +kernel) rfl rfl dX2_draw_20 ?_
    refine ax_alen (v := 4) hC hE.2 1 rfl rfl dX2_draw_23 ?_
    refine ax_icmp_ge (tgt := 47) hC dX2_draw_24 (by decide) (fun c3 => ?_) (fun c3 => ?_)
    · exact absurd c3 (by decide)
    · refine ax_aload_n hC 2 dX2_draw_27 rfl rfl ?_
      refine ax_getf (v := .ref (ea + 1)) hC hE.1 iX2 rfl 7 (by decide) (by decide +kernel) rfl rfl dX2_draw_28 ?_
      refine ax_iload_n hC 0 dX2_draw_31 rfl rfl ?_
      refine ax_iconst (v := 1) hC dX2_draw_32 (by decide) ?_
      refine ax_isub hC dX2_draw_33 ?_
      refine ax_eqi (y := 0) (by decide) ?_
      refine ax_aload_n hC 2 dX2_draw_34 rfl rfl ?_
      refine ax_getf (v := .ref (ea + 1)) hC hE.1 iX2 rfl 7 (by decide) (by decide +kernel) rfl rfl dX2_draw_35 ?_
      refine ax_iload_n hC 0 dX2_draw_38 rfl rfl ?_
      have b4 : vp_in 1 4 := vp_in_iff.mpr (by decide)
      refine ax_iald hC hE.2 1 rfl b4 dX2_draw_39 ?_
      have b5 : vp_in 0 4 := vp_in_iff.mpr (by decide)
      refine ax_iast hC hE.2 1 rfl b5 dX2_draw_40 (fun h6 e7 f8 => ?_)
      have x9 : h6 ea = some (.inr (4, [.int hld, va_rf tk, .int nd, .int en, .int es, .int (nI (q9 + 1)), .int mo, .ref (ea + 1)])) := (f8 _ (by omega)).trans hE.1
      refine ax_iinc (v := 2) hC 0 [(2, .int 2), (1, .int (lf (0 : Int32).toNatClampNeg)), (0, .ref ea)] dX2_draw_41 rfl (by decide) (by decide) rfl ?_
      refine ax_goto (tgt := 18) hC dX2_draw_44 (by decide) ?_
      refine ax_iload_n hC 0 dX2_draw_18 rfl rfl ?_
      refine ax_aload_n hC 2 dX2_draw_19 rfl rfl ?_
      refine ax_getf (v := .ref (ea + 1)) hC x9 iX2 rfl 7 (by decide) (by decide +kernel) rfl rfl dX2_draw_20 ?_
      refine ax_alen (v := 4) hC e7 1 rfl rfl dX2_draw_23 ?_
      refine ax_icmp_ge (tgt := 47) hC dX2_draw_24 (by decide) (fun c11 => ?_) (fun c11 => ?_)
      · exact absurd c11 (by decide)
      · refine ax_aload_n hC 2 dX2_draw_27 rfl rfl ?_
        refine ax_getf (v := .ref (ea + 1)) hC x9 iX2 rfl 7 (by decide) (by decide +kernel) rfl rfl dX2_draw_28 ?_
        refine ax_iload_n hC 0 dX2_draw_31 rfl rfl ?_
        refine ax_iconst (v := 1) hC dX2_draw_32 (by decide) ?_
        refine ax_isub hC dX2_draw_33 ?_
        refine ax_eqi (y := 1) (by decide) ?_
        refine ax_aload_n hC 2 dX2_draw_34 rfl rfl ?_
        refine ax_getf (v := .ref (ea + 1)) hC x9 iX2 rfl 7 (by decide) (by decide +kernel) rfl rfl dX2_draw_35 ?_
        refine ax_iload_n hC 0 dX2_draw_38 rfl rfl ?_
        have b12 : vp_in 2 4 := vp_in_iff.mpr (by decide)
        refine ax_iald hC e7 1 rfl b12 dX2_draw_39 ?_
        have b13 : vp_in 1 4 := vp_in_iff.mpr (by decide)
        refine ax_iast hC e7 1 rfl b13 dX2_draw_40 (fun h14 e15 f16 => ?_)
        have x17 : h14 ea = some (.inr (4, [.int hld, va_rf tk, .int nd, .int en, .int es, .int (nI (q9 + 1)), .int mo, .ref (ea + 1)])) := (f16 _ (by omega)).trans x9
        refine ax_iinc (v := 3) hC 0 [(2, .int 3), (1, .int (lf (0 : Int32).toNatClampNeg)), (0, .ref ea)] dX2_draw_41 rfl (by decide) (by decide) rfl ?_
        refine ax_goto (tgt := 18) hC dX2_draw_44 (by decide) ?_
        refine ax_iload_n hC 0 dX2_draw_18 rfl rfl ?_
        refine ax_aload_n hC 2 dX2_draw_19 rfl rfl ?_
        refine ax_getf (v := .ref (ea + 1)) hC x17 iX2 rfl 7 (by decide) (by decide +kernel) rfl rfl dX2_draw_20 ?_
        refine ax_alen (v := 4) hC e15 1 rfl rfl dX2_draw_23 ?_
        refine ax_icmp_ge (tgt := 47) hC dX2_draw_24 (by decide) (fun c19 => ?_) (fun c19 => ?_)
        · exact absurd c19 (by decide)
        · refine ax_aload_n hC 2 dX2_draw_27 rfl rfl ?_
          refine ax_getf (v := .ref (ea + 1)) hC x17 iX2 rfl 7 (by decide) (by decide +kernel) rfl rfl dX2_draw_28 ?_
          refine ax_iload_n hC 0 dX2_draw_31 rfl rfl ?_
          refine ax_iconst (v := 1) hC dX2_draw_32 (by decide) ?_
          refine ax_isub hC dX2_draw_33 ?_
          refine ax_eqi (y := 2) (by decide) ?_
          refine ax_aload_n hC 2 dX2_draw_34 rfl rfl ?_
          refine ax_getf (v := .ref (ea + 1)) hC x17 iX2 rfl 7 (by decide) (by decide +kernel) rfl rfl dX2_draw_35 ?_
          refine ax_iload_n hC 0 dX2_draw_38 rfl rfl ?_
          have b20 : vp_in 3 4 := vp_in_iff.mpr (by decide)
          refine ax_iald hC e15 1 rfl b20 dX2_draw_39 ?_
          have b21 : vp_in 2 4 := vp_in_iff.mpr (by decide)
          refine ax_iast hC e15 1 rfl b21 dX2_draw_40 (fun h22 e23 f24 => ?_)
          have x25 : h22 ea = some (.inr (4, [.int hld, va_rf tk, .int nd, .int en, .int es, .int (nI (q9 + 1)), .int mo, .ref (ea + 1)])) := (f24 _ (by omega)).trans x17
          refine ax_iinc (v := 4) hC 0 [(2, .int 4), (1, .int (lf (0 : Int32).toNatClampNeg)), (0, .ref ea)] dX2_draw_41 rfl (by decide) (by decide) rfl ?_
          refine ax_goto (tgt := 18) hC dX2_draw_44 (by decide) ?_
          refine ax_iload_n hC 0 dX2_draw_18 rfl rfl ?_
          refine ax_aload_n hC 2 dX2_draw_19 rfl rfl ?_
          refine ax_getf (v := .ref (ea + 1)) hC x25 iX2 rfl 7 (by decide) (by decide +kernel) rfl rfl dX2_draw_20 ?_
          refine ax_alen (v := 4) hC e23 1 rfl rfl dX2_draw_23 ?_
          refine ax_icmp_ge (tgt := 47) hC dX2_draw_24 (by decide) (fun c27 => ?_) (fun c27 => ?_)
          · refine ax_aload_n hC 2 dX2_draw_47 rfl rfl ?_
            refine ax_dup hC dX2_draw_48 rfl ?_
            refine ax_getf (v := .int (nI (q9 + 1))) hC x25 iX2 rfl 5 (by decide) (by decide +kernel) rfl rfl dX2_draw_49 ?_
            refine ax_iconst (v := 1) hC dX2_draw_52 (by decide) ?_
            refine ax_isub hC dX2_draw_53 ?_
            refine ax_eqi (y := nI q9) (nI_pred q9) ?_
            refine ax_putf (v := .int (nI q9)) (ty := .int) hC tyX2 x25 iX2 tyX2_ok nmX2 rfl 5 (by decide) (by decide +kernel) rfl rfl (by decide +kernel) (rfl) rfl (Nat.le_of_ble_eq_true rfl) dX2_draw_54 (fun h28 e29 f30 => ?_)
            have e29 : h28 ea = some (.inr (4, [.int hld, va_rf tk, .int nd, .int en, .int es, .int (nI q9), .int mo, .ref (ea + 1)])) := e29
            have x31 : h28 (ea + 1) = some (.inl (z 1, 4, .inl (upd (upd (upd lf (0 : Int32).toNatClampNeg (lf (1 : Int32).toNatClampNeg)) (1 : Int32).toNatClampNeg ((upd lf (0 : Int32).toNatClampNeg (lf (1 : Int32).toNatClampNeg)) (2 : Int32).toNatClampNeg)) (2 : Int32).toNatClampNeg ((upd (upd lf (0 : Int32).toNatClampNeg (lf (1 : Int32).toNatClampNeg)) (1 : Int32).toNatClampNeg ((upd lf (0 : Int32).toNatClampNeg (lf (1 : Int32).toNatClampNeg)) (2 : Int32).toNatClampNeg)) (3 : Int32).toNatClampNeg)))) := (f30 _ (by omega)).trans e23
            refine ax_iload_n hC 1 dX2_draw_57 rfl rfl ?_
            refine ax_iret hC hr hlocks dX2_draw_58 ?_
            exact ⟨rfl, rfl, fun q hq => ((f30 q (by omega)).trans ((f24 q (by omega)).trans ((f16 q (by omega)).trans (f8 q (by omega))))), _, ⟨e29, x31⟩, drw lf⟩
          · exact absurd c27 (by decide)
  · exact absurd (Int32.not_le.mp (nI_nle (n := q9 + 1) (by omega) (by omega))) c1

abbrev rmX2_start : Room := { frames := 1, cells := 0, slots := 0, locals := 20 }
set_option maxRecDepth 100000 in
set_option maxHeartbeats 4000000 in
theorem c_X2_start (l : Launch) (D : va_G) (z : Nat → ClassId) (B : Heap) (lo hi : Nat) (h : Nat → Option va_E) (ea a : Nat) (hld nd en es ly mo nd9 pt : Int32) (tk : Option Nat) (lf : Nat → Int32) (T : PT) (hE : EndS z h ea hld tk nd en es ly mo lf) (hP : PrC z h a nd9 T) (hcap : pcap T ≤ 60) (hea : ea + 2 ≤ a) : Met l yX2_start wsX2_start rmX2_start (KP D vwCl B lo hi h (ty6 z) [.ref ea, .int pt, .ref a]) (KQv D vwCl B lo (ty6 z) (fun hi' h' => hi' = hi ∧ (∀ q, (q < ea ∨ ea + 2 ≤ q) → h' q = h q) ∧ EndS z h' ea pt (some a) (rd (pcap T) (pSt T) 0 0) 0 0 0 0 lf)) 0 0 (fun q => lo ≤ q) := by
  refine ax_met (by decide) rfl (Nat.le_of_ble_eq_true rfl) (L0 := [(0, .ref ea), (1, .int pt), (2, .ref a)]) rfl ?_
  intro p e s m args below meth c hC hr hlocks hnm hargs
  have iX2 : ∀ w ∈ u_ws RX2 TX2 8, w ∈ wsX2_start := by decide +kernel
  refine ax_aload_n hC 0 dX2_start_0 rfl rfl ?_
  refine ax_iload_n hC 1 dX2_start_1 rfl rfl ?_
  refine ax_putf (v := .int pt) (ty := .int) hC tyX2 hE.1 iX2 tyX2_ok nmX2 rfl 0 (by decide) (by decide +kernel) rfl rfl (by decide +kernel) (rfl) rfl (Nat.le_of_ble_eq_true rfl) dX2_start_2 (fun h1 e2 f3 => ?_)
  have e2 : h1 ea = some (.inr (4, [.int pt, va_rf tk, .int nd, .int en, .int es, .int ly, .int mo, .ref (ea + 1)])) := e2
  have x4 : h1 (ea + 1) = some (.inl (z 1, 4, .inl (lf))) := (f3 _ (by omega)).trans hE.2
  have hp_5 : PrC z h1 a _ T := hP.kept (fun q _ _ => f3 q (by omega))
  refine ax_aload_n hC 0 dX2_start_5 rfl rfl ?_
  refine ax_aload_n hC 2 dX2_start_6 rfl rfl ?_
  refine ax_putf (v := .ref a) (ty := .object "SessionEnds$Protocol") hC tyX2 e2 iX2 tyX2_ok nmX2 rfl 1 (by decide) (by decide +kernel) rfl rfl (by decide +kernel) (rfl) rfl (Nat.le_of_ble_eq_true rfl) dX2_start_7 (fun h6 e7 f8 => ?_)
  have e7 : h6 ea = some (.inr (4, [.int pt, .ref a, .int nd, .int en, .int es, .int ly, .int mo, .ref (ea + 1)])) := e7
  have x9 : h6 (ea + 1) = some (.inl (z 1, 4, .inl (lf))) := (f8 _ (by omega)).trans x4
  have hp_10 : PrC z h6 a _ T := hp_5.kept (fun q _ _ => f8 q (by omega))
  refine ax_aload_n hC 0 dX2_start_10 rfl rfl ?_
  refine ax_aload_n hC 2 dX2_start_11 rfl rfl ?_
  refine ax_callVp (st := [.ref ea]) hC [] hp_10.1 rfl (c_X7_beginning l D z B lo _ h6 a _ T hp_10 hcap) (cwV 0 hC.1.2.2.2.2 gX2_start_X7_beginning rfl rfl rfl (by decide +kernel) ⟨Nat.le_of_ble_eq_true rfl, Nat.le_of_ble_eq_true rfl⟩) rfl rfl (Nat.le_of_ble_eq_true rfl) dX2_start_12 ⟨Nat.le_of_ble_eq_true rfl, Nat.le_of_ble_eq_true rfl⟩ (fun r11 er12 => ?_)
  subst er12
  refine ax_putf (v := .int (rd (pcap T) (pSt T) 0 0)) (ty := .int) hC tyX2 e7 iX2 tyX2_ok nmX2 rfl 2 (by decide) (by decide +kernel) rfl rfl (by decide +kernel) (rfl) rfl (Nat.le_of_ble_eq_true rfl) dX2_start_15 (fun h13 e14 f15 => ?_)
  have e14 : h13 ea = some (.inr (4, [.int pt, .ref a, .int (rd (pcap T) (pSt T) 0 0), .int en, .int es, .int ly, .int mo, .ref (ea + 1)])) := e14
  have x16 : h13 (ea + 1) = some (.inl (z 1, 4, .inl (lf))) := (f15 _ (by omega)).trans x9
  have hp_17 : PrC z h13 a _ T := hp_10.kept (fun q _ _ => f15 q (by omega))
  refine ax_aload_n hC 0 dX2_start_18 rfl rfl ?_
  refine ax_iconst (v := 0) hC dX2_start_19 (by decide) ?_
  refine ax_putf (v := .int 0) (ty := .boolean) hC tyX2 e14 iX2 tyX2_ok nmX2 rfl 3 (by decide) (by decide +kernel) rfl rfl (by decide +kernel) (rfl) rfl (Nat.le_of_ble_eq_true rfl) dX2_start_20 (fun h18 e19 f20 => ?_)
  have e19 : h18 ea = some (.inr (4, [.int pt, .ref a, .int (rd (pcap T) (pSt T) 0 0), .int 0, .int es, .int ly, .int mo, .ref (ea + 1)])) := e19
  have x21 : h18 (ea + 1) = some (.inl (z 1, 4, .inl (lf))) := (f20 _ (by omega)).trans x16
  have hp_22 : PrC z h18 a _ T := hp_17.kept (fun q _ _ => f20 q (by omega))
  refine ax_aload_n hC 0 dX2_start_23 rfl rfl ?_
  refine ax_iconst (v := 0) hC dX2_start_24 (by decide) ?_
  refine ax_putf (v := .int 0) (ty := .int) hC tyX2 e19 iX2 tyX2_ok nmX2 rfl 4 (by decide) (by decide +kernel) rfl rfl (by decide +kernel) (rfl) rfl (Nat.le_of_ble_eq_true rfl) dX2_start_25 (fun h23 e24 f25 => ?_)
  have e24 : h23 ea = some (.inr (4, [.int pt, .ref a, .int (rd (pcap T) (pSt T) 0 0), .int 0, .int 0, .int ly, .int mo, .ref (ea + 1)])) := e24
  have x26 : h23 (ea + 1) = some (.inl (z 1, 4, .inl (lf))) := (f25 _ (by omega)).trans x21
  have hp_27 : PrC z h23 a _ T := hp_22.kept (fun q _ _ => f25 q (by omega))
  refine ax_aload_n hC 0 dX2_start_28 rfl rfl ?_
  refine ax_iconst (v := 0) hC dX2_start_29 (by decide) ?_
  refine ax_putf (v := .int 0) (ty := .int) hC tyX2 e24 iX2 tyX2_ok nmX2 rfl 5 (by decide) (by decide +kernel) rfl rfl (by decide +kernel) (rfl) rfl (Nat.le_of_ble_eq_true rfl) dX2_start_30 (fun h28 e29 f30 => ?_)
  have e29 : h28 ea = some (.inr (4, [.int pt, .ref a, .int (rd (pcap T) (pSt T) 0 0), .int 0, .int 0, .int 0, .int mo, .ref (ea + 1)])) := e29
  have x31 : h28 (ea + 1) = some (.inl (z 1, 4, .inl (lf))) := (f30 _ (by omega)).trans x26
  have hp_32 : PrC z h28 a _ T := hp_27.kept (fun q _ _ => f30 q (by omega))
  refine ax_aload_n hC 0 dX2_start_33 rfl rfl ?_
  refine ax_iconst (v := 0) hC dX2_start_34 (by decide) ?_
  refine ax_putf (v := .int 0) (ty := .int) hC tyX2 e29 iX2 tyX2_ok nmX2 rfl 6 (by decide) (by decide +kernel) rfl rfl (by decide +kernel) (rfl) rfl (Nat.le_of_ble_eq_true rfl) dX2_start_35 (fun h33 e34 f35 => ?_)
  have e34 : h33 ea = some (.inr (4, [.int pt, .ref a, .int (rd (pcap T) (pSt T) 0 0), .int 0, .int 0, .int 0, .int 0, .ref (ea + 1)])) := e34
  have x36 : h33 (ea + 1) = some (.inl (z 1, 4, .inl (lf))) := (f35 _ (by omega)).trans x31
  have hp_37 : PrC z h33 a _ T := hp_32.kept (fun q _ _ => f35 q (by omega))
  refine ax_vret hC hr hlocks dX2_start_38 ?_
  exact ⟨rfl, fun q hq => ((f35 q (by omega)).trans ((f30 q (by omega)).trans ((f25 q (by omega)).trans ((f20 q (by omega)).trans ((f15 q (by omega)).trans ((f8 q (by omega)).trans (f3 q (by omega)))))))), e34, x36⟩

abbrev rmX0_begin : Room := { frames := 0, cells := 0, slots := 0, locals := 0 }
set_option maxRecDepth 100000 in
set_option maxHeartbeats 4000000 in
theorem c_X0_begin (l : Launch) (D : va_G) (z : Nat → ClassId) (B : Heap) (lo hi : Nat) (h : Nat → Option va_E) (o : Nat) (pa st nu en ca : Int32) (cf : Nat → Int32) (g1 g2 g3 g4 : Int32) (hB : BlmS z h o pa st nu en ca cf) : Met l yX0_begin wsX0_begin rmX0_begin (KP D vwCl B lo hi h (ty6 z) [.ref o, .int g1, .int g2, .int g3, .int g4]) (KQv D vwCl B lo (ty6 z) (fun hi' h' => hi' = hi ∧ (∀ q, (q < o ∨ o + 2 ≤ q) → h' q = h q) ∧ BlmS z h' o g1 g2 g3 g4 0 cf)) 0 0 (fun q => lo ≤ q) := by
  refine ax_met (by decide) rfl (Nat.le_of_ble_eq_true rfl) (L0 := [(0, .ref o), (1, .int g1), (2, .int g2), (3, .int g3), (4, .int g4)]) rfl ?_
  intro p e s m args below meth c hC hr hlocks hnm hargs
  have iX0 : ∀ w ∈ u_ws RX0 TX0 6, w ∈ wsX0_begin := by decide +kernel
  refine ax_aload_n hC 0 dX0_begin_0 rfl rfl ?_
  refine ax_iload_n hC 1 dX0_begin_1 rfl rfl ?_
  refine ax_putf (v := .int g1) (ty := .int) hC tyX0 hB.1 iX0 tyX0_ok nmX0 rfl 0 (by decide) (by decide +kernel) rfl rfl (by decide +kernel) (rfl) rfl (Nat.le_of_ble_eq_true rfl) dX0_begin_2 (fun h1 e2 f3 => ?_)
  have e2 : h1 o = some (.inr (2, [.int g1, .int st, .int nu, .int en, .int ca, .ref (o + 1)])) := e2
  have x4 : h1 (o + 1) = some (.inl (z 1, 3, .inl (cf))) := (f3 _ (by omega)).trans hB.2
  refine ax_aload_n hC 0 dX0_begin_5 rfl rfl ?_
  refine ax_iload_n hC 2 dX0_begin_6 rfl rfl ?_
  refine ax_putf (v := .int g2) (ty := .int) hC tyX0 e2 iX0 tyX0_ok nmX0 rfl 1 (by decide) (by decide +kernel) rfl rfl (by decide +kernel) (rfl) rfl (Nat.le_of_ble_eq_true rfl) dX0_begin_7 (fun h5 e6 f7 => ?_)
  have e6 : h5 o = some (.inr (2, [.int g1, .int g2, .int nu, .int en, .int ca, .ref (o + 1)])) := e6
  have x8 : h5 (o + 1) = some (.inl (z 1, 3, .inl (cf))) := (f7 _ (by omega)).trans x4
  refine ax_aload_n hC 0 dX0_begin_10 rfl rfl ?_
  refine ax_iload_n hC 3 dX0_begin_11 rfl rfl ?_
  refine ax_putf (v := .int g3) (ty := .int) hC tyX0 e6 iX0 tyX0_ok nmX0 rfl 2 (by decide) (by decide +kernel) rfl rfl (by decide +kernel) (rfl) rfl (Nat.le_of_ble_eq_true rfl) dX0_begin_12 (fun h9 e10 f11 => ?_)
  have e10 : h9 o = some (.inr (2, [.int g1, .int g2, .int g3, .int en, .int ca, .ref (o + 1)])) := e10
  have x12 : h9 (o + 1) = some (.inl (z 1, 3, .inl (cf))) := (f11 _ (by omega)).trans x8
  refine ax_aload_n hC 0 dX0_begin_15 rfl rfl ?_
  refine ax_iload hC 4 dX0_begin_16 rfl ?_
  refine ax_putf (v := .int g4) (ty := .int) hC tyX0 e10 iX0 tyX0_ok nmX0 rfl 3 (by decide) (by decide +kernel) rfl rfl (by decide +kernel) (rfl) rfl (Nat.le_of_ble_eq_true rfl) dX0_begin_18 (fun h13 e14 f15 => ?_)
  have e14 : h13 o = some (.inr (2, [.int g1, .int g2, .int g3, .int g4, .int ca, .ref (o + 1)])) := e14
  have x16 : h13 (o + 1) = some (.inl (z 1, 3, .inl (cf))) := (f15 _ (by omega)).trans x12
  refine ax_aload_n hC 0 dX0_begin_21 rfl rfl ?_
  refine ax_iconst (v := 0) hC dX0_begin_22 (by decide) ?_
  refine ax_putf (v := .int 0) (ty := .int) hC tyX0 e14 iX0 tyX0_ok nmX0 rfl 4 (by decide) (by decide +kernel) rfl rfl (by decide +kernel) (rfl) rfl (Nat.le_of_ble_eq_true rfl) dX0_begin_23 (fun h17 e18 f19 => ?_)
  have e18 : h17 o = some (.inr (2, [.int g1, .int g2, .int g3, .int g4, .int 0, .ref (o + 1)])) := e18
  have x20 : h17 (o + 1) = some (.inl (z 1, 3, .inl (cf))) := (f19 _ (by omega)).trans x16
  refine ax_vret hC hr hlocks dX0_begin_26 ?_
  exact ⟨rfl, fun q hq => ((f19 q (by omega)).trans ((f15 q (by omega)).trans ((f11 q (by omega)).trans ((f7 q (by omega)).trans (f3 q (by omega)))))), e18, x20⟩

abbrev rmX0_add : Room := { frames := 0, cells := 0, slots := 0, locals := 0 }
set_option maxRecDepth 100000 in
set_option maxHeartbeats 4000000 in
theorem c_X0_add_0 (l : Launch) (D : va_G) (z : Nat → ClassId) (B : Heap) (lo hi : Nat) (h : Nat → Option va_E) (o : Nat) (pa st nu en : Int32) (cf : Nat → Int32) (x : Int32) (hB : BlmS z h o pa st nu en 0 cf) : Met l yX0_add wsX0_add rmX0_add (KP D vwCl B lo hi h (ty6 z) [.ref o, .int x]) (KQv D vwCl B lo (ty6 z) (fun hi' h' => hi' = hi ∧ (∀ q, (q < o ∨ o + 2 ≤ q) → h' q = h q) ∧ BlmS z h' o pa st nu en 1 (upd cf 0 x))) 0 0 (fun q => lo ≤ q) := by
  refine ax_met (by decide) rfl (Nat.le_of_ble_eq_true rfl) (L0 := [(0, .ref o), (1, .int x)]) rfl ?_
  intro p e s m args below meth c hC hr hlocks hnm hargs
  have iX0 : ∀ w ∈ u_ws RX0 TX0 6, w ∈ wsX0_add := by decide +kernel
  refine ax_aload_n hC 0 dX0_add_0 rfl rfl ?_
  refine ax_getf (v := .int 0) hC hB.1 iX0 rfl 4 (by decide) (by decide +kernel) rfl rfl dX0_add_1 ?_
  refine ax_if_lt (tgt := 19) hC dX0_add_4 (by decide) (fun c1 => ?_) (fun c1 => ?_)
  · exact absurd c1 (by decide)
  · refine ax_aload_n hC 0 dX0_add_7 rfl rfl ?_
    refine ax_getf (v := .int 0) hC hB.1 iX0 rfl 4 (by decide) (by decide +kernel) rfl rfl dX0_add_8 ?_
    refine ax_aload_n hC 0 dX0_add_11 rfl rfl ?_
    refine ax_getf (v := .ref (o + 1)) hC hB.1 iX0 rfl 5 (by decide) (by decide +kernel) rfl rfl dX0_add_12 ?_
    refine ax_alen (v := 3) hC hB.2 1 rfl rfl dX0_add_15 ?_
    refine ax_icmp_lt (tgt := 20) hC dX0_add_16 (by decide) (fun c2 => ?_) (fun c2 => ?_)
    · refine ax_aload_n hC 0 dX0_add_20 rfl rfl ?_
      refine ax_getf (v := .ref (o + 1)) hC hB.1 iX0 rfl 5 (by decide) (by decide +kernel) rfl rfl dX0_add_21 ?_
      refine ax_aload_n hC 0 dX0_add_24 rfl rfl ?_
      refine ax_getf (v := .int 0) hC hB.1 iX0 rfl 4 (by decide) (by decide +kernel) rfl rfl dX0_add_25 ?_
      refine ax_iload_n hC 1 dX0_add_28 rfl rfl ?_
      have b3 : vp_in 0 3 := vp_in_iff.mpr (by decide)
      refine ax_iast hC hB.2 1 rfl b3 dX0_add_29 (fun h4 e5 f6 => ?_)
      have x7 : h4 o = some (.inr (2, [.int pa, .int st, .int nu, .int en, .int 0, .ref (o + 1)])) := (f6 _ (by omega)).trans hB.1
      refine ax_aload_n hC 0 dX0_add_30 rfl rfl ?_
      refine ax_dup hC dX0_add_31 rfl ?_
      refine ax_getf (v := .int 0) hC x7 iX0 rfl 4 (by decide) (by decide +kernel) rfl rfl dX0_add_32 ?_
      refine ax_iconst (v := 1) hC dX0_add_35 (by decide) ?_
      refine ax_iadd hC dX0_add_36 ?_
      refine ax_eqi (y := 1) (by decide) ?_
      refine ax_putf (v := .int 1) (ty := .int) hC tyX0 x7 iX0 tyX0_ok nmX0 rfl 4 (by decide) (by decide +kernel) rfl rfl (by decide +kernel) (rfl) rfl (Nat.le_of_ble_eq_true rfl) dX0_add_37 (fun h8 e9 f10 => ?_)
      have e9 : h8 o = some (.inr (2, [.int pa, .int st, .int nu, .int en, .int 1, .ref (o + 1)])) := e9
      have x11 : h8 (o + 1) = some (.inl (z 1, 3, .inl (upd cf (0 : Int32).toNatClampNeg x))) := (f10 _ (by omega)).trans e5
      refine ax_vret hC hr hlocks dX0_add_40 ?_
      exact ⟨rfl, fun q hq => ((f10 q (by omega)).trans (f6 q (by omega))), e9, x11⟩
    · exact absurd c2 (by decide)

abbrev rmX0_causeAt : Room := { frames := 0, cells := 0, slots := 0, locals := 0 }
set_option maxRecDepth 100000 in
set_option maxHeartbeats 4000000 in
theorem c_X0_causeAt_0 (l : Launch) (D : va_G) (z : Nat → ClassId) (B : Heap) (lo hi : Nat) (h : Nat → Option va_E) (o : Nat) (pa st nu en : Int32) (cf : Nat → Int32) (hB : BlmS z h o pa st nu en 2 cf) : Met l yX0_causeAt wsX0_causeAt rmX0_causeAt (KP D vwCl B lo hi h (ty6 z) [.ref o, .int 0]) (KQp D vwCl B lo hi h (ty6 z) (fun r => r = cf 0)) 0 0 (fun q => lo ≤ q) := by
  refine ax_met (by decide) rfl (Nat.le_of_ble_eq_true rfl) (L0 := [(0, .ref o), (1, .int 0)]) rfl ?_
  intro p e s m args below meth c hC hr hlocks hnm hargs
  have iX0 : ∀ w ∈ u_ws RX0 TX0 6, w ∈ wsX0_causeAt := by decide +kernel
  refine ax_iload_n hC 1 dX0_causeAt_0 rfl rfl ?_
  refine ax_if_lt (tgt := 30) hC dX0_causeAt_1 (by decide) (fun c1 => ?_) (fun c1 => ?_)
  · exact absurd c1 (by decide)
  · refine ax_iload_n hC 1 dX0_causeAt_4 rfl rfl ?_
    refine ax_aload_n hC 0 dX0_causeAt_5 rfl rfl ?_
    refine ax_getf (v := .int 2) hC hB.1 iX0 rfl 4 (by decide) (by decide +kernel) rfl rfl dX0_causeAt_6 ?_
    refine ax_icmp_ge (tgt := 30) hC dX0_causeAt_9 (by decide) (fun c2 => ?_) (fun c2 => ?_)
    · exact absurd c2 (by decide)
    · refine ax_iload_n hC 1 dX0_causeAt_12 rfl rfl ?_
      refine ax_aload_n hC 0 dX0_causeAt_13 rfl rfl ?_
      refine ax_getf (v := .ref (o + 1)) hC hB.1 iX0 rfl 5 (by decide) (by decide +kernel) rfl rfl dX0_causeAt_14 ?_
      refine ax_alen (v := 3) hC hB.2 1 rfl rfl dX0_causeAt_17 ?_
      refine ax_icmp_ge (tgt := 30) hC dX0_causeAt_18 (by decide) (fun c3 => ?_) (fun c3 => ?_)
      · exact absurd c3 (by decide)
      · refine ax_aload_n hC 0 dX0_causeAt_21 rfl rfl ?_
        refine ax_getf (v := .ref (o + 1)) hC hB.1 iX0 rfl 5 (by decide) (by decide +kernel) rfl rfl dX0_causeAt_22 ?_
        refine ax_iload_n hC 1 dX0_causeAt_25 rfl rfl ?_
        have b4 : vp_in 0 3 := vp_in_iff.mpr (by decide)
        refine ax_iald hC hB.2 1 rfl b4 dX0_causeAt_26 ?_
        refine ax_goto (tgt := 32) hC dX0_causeAt_27 (by decide) ?_
        refine ax_iret hC hr hlocks dX0_causeAt_32 ?_
        exact ⟨rfl, rfl, rfl⟩

set_option maxRecDepth 100000 in
set_option maxHeartbeats 4000000 in
theorem c_X0_add_1 (l : Launch) (D : va_G) (z : Nat → ClassId) (B : Heap) (lo hi : Nat) (h : Nat → Option va_E) (o : Nat) (pa st nu en : Int32) (cf : Nat → Int32) (x : Int32) (hB : BlmS z h o pa st nu en 1 cf) : Met l yX0_add wsX0_add rmX0_add (KP D vwCl B lo hi h (ty6 z) [.ref o, .int x]) (KQv D vwCl B lo (ty6 z) (fun hi' h' => hi' = hi ∧ (∀ q, (q < o ∨ o + 2 ≤ q) → h' q = h q) ∧ BlmS z h' o pa st nu en 2 (upd cf 1 x))) 0 0 (fun q => lo ≤ q) := by
  refine ax_met (by decide) rfl (Nat.le_of_ble_eq_true rfl) (L0 := [(0, .ref o), (1, .int x)]) rfl ?_
  intro p e s m args below meth c hC hr hlocks hnm hargs
  have iX0 : ∀ w ∈ u_ws RX0 TX0 6, w ∈ wsX0_add := by decide +kernel
  refine ax_aload_n hC 0 dX0_add_0 rfl rfl ?_
  refine ax_getf (v := .int 1) hC hB.1 iX0 rfl 4 (by decide) (by decide +kernel) rfl rfl dX0_add_1 ?_
  refine ax_if_lt (tgt := 19) hC dX0_add_4 (by decide) (fun c1 => ?_) (fun c1 => ?_)
  · exact absurd c1 (by decide)
  · refine ax_aload_n hC 0 dX0_add_7 rfl rfl ?_
    refine ax_getf (v := .int 1) hC hB.1 iX0 rfl 4 (by decide) (by decide +kernel) rfl rfl dX0_add_8 ?_
    refine ax_aload_n hC 0 dX0_add_11 rfl rfl ?_
    refine ax_getf (v := .ref (o + 1)) hC hB.1 iX0 rfl 5 (by decide) (by decide +kernel) rfl rfl dX0_add_12 ?_
    refine ax_alen (v := 3) hC hB.2 1 rfl rfl dX0_add_15 ?_
    refine ax_icmp_lt (tgt := 20) hC dX0_add_16 (by decide) (fun c2 => ?_) (fun c2 => ?_)
    · refine ax_aload_n hC 0 dX0_add_20 rfl rfl ?_
      refine ax_getf (v := .ref (o + 1)) hC hB.1 iX0 rfl 5 (by decide) (by decide +kernel) rfl rfl dX0_add_21 ?_
      refine ax_aload_n hC 0 dX0_add_24 rfl rfl ?_
      refine ax_getf (v := .int 1) hC hB.1 iX0 rfl 4 (by decide) (by decide +kernel) rfl rfl dX0_add_25 ?_
      refine ax_iload_n hC 1 dX0_add_28 rfl rfl ?_
      have b3 : vp_in 1 3 := vp_in_iff.mpr (by decide)
      refine ax_iast hC hB.2 1 rfl b3 dX0_add_29 (fun h4 e5 f6 => ?_)
      have x7 : h4 o = some (.inr (2, [.int pa, .int st, .int nu, .int en, .int 1, .ref (o + 1)])) := (f6 _ (by omega)).trans hB.1
      refine ax_aload_n hC 0 dX0_add_30 rfl rfl ?_
      refine ax_dup hC dX0_add_31 rfl ?_
      refine ax_getf (v := .int 1) hC x7 iX0 rfl 4 (by decide) (by decide +kernel) rfl rfl dX0_add_32 ?_
      refine ax_iconst (v := 1) hC dX0_add_35 (by decide) ?_
      refine ax_iadd hC dX0_add_36 ?_
      refine ax_eqi (y := 2) (by decide) ?_
      refine ax_putf (v := .int 2) (ty := .int) hC tyX0 x7 iX0 tyX0_ok nmX0 rfl 4 (by decide) (by decide +kernel) rfl rfl (by decide +kernel) (rfl) rfl (Nat.le_of_ble_eq_true rfl) dX0_add_37 (fun h8 e9 f10 => ?_)
      have e9 : h8 o = some (.inr (2, [.int pa, .int st, .int nu, .int en, .int 2, .ref (o + 1)])) := e9
      have x11 : h8 (o + 1) = some (.inl (z 1, 3, .inl (upd cf (1 : Int32).toNatClampNeg x))) := (f10 _ (by omega)).trans e5
      refine ax_vret hC hr hlocks dX0_add_40 ?_
      exact ⟨rfl, fun q hq => ((f10 q (by omega)).trans (f6 q (by omega))), e9, x11⟩
    · exact absurd c2 (by decide)

set_option maxRecDepth 100000 in
set_option maxHeartbeats 4000000 in
theorem c_X0_causeAt_1 (l : Launch) (D : va_G) (z : Nat → ClassId) (B : Heap) (lo hi : Nat) (h : Nat → Option va_E) (o : Nat) (pa st nu en : Int32) (cf : Nat → Int32) (hB : BlmS z h o pa st nu en 2 cf) : Met l yX0_causeAt wsX0_causeAt rmX0_causeAt (KP D vwCl B lo hi h (ty6 z) [.ref o, .int 1]) (KQp D vwCl B lo hi h (ty6 z) (fun r => r = cf 1)) 0 0 (fun q => lo ≤ q) := by
  refine ax_met (by decide) rfl (Nat.le_of_ble_eq_true rfl) (L0 := [(0, .ref o), (1, .int 1)]) rfl ?_
  intro p e s m args below meth c hC hr hlocks hnm hargs
  have iX0 : ∀ w ∈ u_ws RX0 TX0 6, w ∈ wsX0_causeAt := by decide +kernel
  refine ax_iload_n hC 1 dX0_causeAt_0 rfl rfl ?_
  refine ax_if_lt (tgt := 30) hC dX0_causeAt_1 (by decide) (fun c1 => ?_) (fun c1 => ?_)
  · exact absurd c1 (by decide)
  · refine ax_iload_n hC 1 dX0_causeAt_4 rfl rfl ?_
    refine ax_aload_n hC 0 dX0_causeAt_5 rfl rfl ?_
    refine ax_getf (v := .int 2) hC hB.1 iX0 rfl 4 (by decide) (by decide +kernel) rfl rfl dX0_causeAt_6 ?_
    refine ax_icmp_ge (tgt := 30) hC dX0_causeAt_9 (by decide) (fun c2 => ?_) (fun c2 => ?_)
    · exact absurd c2 (by decide)
    · refine ax_iload_n hC 1 dX0_causeAt_12 rfl rfl ?_
      refine ax_aload_n hC 0 dX0_causeAt_13 rfl rfl ?_
      refine ax_getf (v := .ref (o + 1)) hC hB.1 iX0 rfl 5 (by decide) (by decide +kernel) rfl rfl dX0_causeAt_14 ?_
      refine ax_alen (v := 3) hC hB.2 1 rfl rfl dX0_causeAt_17 ?_
      refine ax_icmp_ge (tgt := 30) hC dX0_causeAt_18 (by decide) (fun c3 => ?_) (fun c3 => ?_)
      · exact absurd c3 (by decide)
      · refine ax_aload_n hC 0 dX0_causeAt_21 rfl rfl ?_
        refine ax_getf (v := .ref (o + 1)) hC hB.1 iX0 rfl 5 (by decide) (by decide +kernel) rfl rfl dX0_causeAt_22 ?_
        refine ax_iload_n hC 1 dX0_causeAt_25 rfl rfl ?_
        have b4 : vp_in 1 3 := vp_in_iff.mpr (by decide)
        refine ax_iald hC hB.2 1 rfl b4 dX0_causeAt_26 ?_
        refine ax_goto (tgt := 32) hC dX0_causeAt_27 (by decide) ?_
        refine ax_iret hC hr hlocks dX0_causeAt_32 ?_
        exact ⟨rfl, rfl, rfl⟩
