def pc_u (x k : Int32) : Int32 := (x.toUInt32 >>> (k.toUInt32 &&& Int32.toUInt32 31)).toInt32
def pc_1 (x : Int32) : Int32 := x - (pc_u x 1 &&& 1431655765)
def pc_2 (x : Int32) : Int32 := (x &&& 858993459) + (pc_u x 2 &&& 858993459)
def pc_3 (x : Int32) : Int32 := (x + pc_u x 4) &&& 252645135
def pc_4 (x : Int32) : Int32 := x + pc_u x 8
def pc_5 (x : Int32) : Int32 := (x + pc_u x 16) &&& 63
def popc (x : Int32) : Int32 := pc_5 (pc_4 (pc_3 (pc_2 (pc_1 x))))

abbrev rmJ6_bitCount_0f7a4 : Room := { frames := 0, cells := 0, slots := 0, locals := 0 }
set_option maxRecDepth 100000 in
set_option maxHeartbeats 4000000 in
theorem c_J6_bitCount_0f7a4 (l : Launch) (D : va_G) (z : Nat → ClassId) (B : Heap) (lo hi : Nat) (h : Nat → Option va_E) (x : Int32)  : Met l yJ6_bitCount_0f7a4 wsJ6_bitCount_0f7a4 rmJ6_bitCount_0f7a4 (KP D vwCl B lo hi h (ty6 z) [.int x]) (KQp D vwCl B lo hi h (ty6 z) (fun r => r = popc x)) 0 0 (fun q => lo ≤ q) := by
  refine ax_met (by decide) rfl (Nat.le_of_ble_eq_true rfl) (L0 := [(0, .int x)]) rfl ?_
  intro p e s m args below meth c hC hr hlocks hnm hargs
  refine ax_iload_n hC 0 dJ6_bitCount_0f7a4_0 rfl rfl ?_
  refine ax_iload_n hC 0 dJ6_bitCount_0f7a4_1 rfl rfl ?_
  refine ax_iconst (v := 1) hC dJ6_bitCount_0f7a4_2 (by decide) ?_
  refine ax_iushr hC dJ6_bitCount_0f7a4_3 rfl ?_
  refine ax_ldcw (v := (1431655765)) hC (by decide +kernel) dJ6_bitCount_0f7a4_4 ?_
  refine ax_iand hC dJ6_bitCount_0f7a4_7 ?_
  refine ax_isub hC dJ6_bitCount_0f7a4_8 ?_
  refine ax_istore_n hC [(0, .int (x - (((x.toUInt32 >>> ((1 : Int32).toUInt32 &&& Int32.toUInt32 31)).toInt32) &&& (1431655765))))] dJ6_bitCount_0f7a4_9 rfl (by decide) rfl ?_
  refine ax_iload_n hC 0 dJ6_bitCount_0f7a4_10 rfl rfl ?_
  refine ax_ldcw (v := (858993459)) hC (by decide +kernel) dJ6_bitCount_0f7a4_11 ?_
  refine ax_iand hC dJ6_bitCount_0f7a4_14 ?_
  refine ax_iload_n hC 0 dJ6_bitCount_0f7a4_15 rfl rfl ?_
  refine ax_iconst (v := 2) hC dJ6_bitCount_0f7a4_16 (by decide) ?_
  refine ax_iushr hC dJ6_bitCount_0f7a4_17 rfl ?_
  refine ax_ldcw (v := (858993459)) hC (by decide +kernel) dJ6_bitCount_0f7a4_18 ?_
  refine ax_iand hC dJ6_bitCount_0f7a4_21 ?_
  refine ax_iadd hC dJ6_bitCount_0f7a4_22 ?_
  refine ax_istore_n hC [(0, .int (((x - (((x.toUInt32 >>> ((1 : Int32).toUInt32 &&& Int32.toUInt32 31)).toInt32) &&& (1431655765))) &&& (858993459)) + ((((x - (((x.toUInt32 >>> ((1 : Int32).toUInt32 &&& Int32.toUInt32 31)).toInt32) &&& (1431655765))).toUInt32 >>> ((2 : Int32).toUInt32 &&& Int32.toUInt32 31)).toInt32) &&& (858993459))))] dJ6_bitCount_0f7a4_23 rfl (by decide) rfl ?_
  refine ax_iload_n hC 0 dJ6_bitCount_0f7a4_24 rfl rfl ?_
  refine ax_iload_n hC 0 dJ6_bitCount_0f7a4_25 rfl rfl ?_
  refine ax_iconst (v := 4) hC dJ6_bitCount_0f7a4_26 (by decide) ?_
  refine ax_iushr hC dJ6_bitCount_0f7a4_27 rfl ?_
  refine ax_iadd hC dJ6_bitCount_0f7a4_28 ?_
  refine ax_ldcw (v := (252645135)) hC (by decide +kernel) dJ6_bitCount_0f7a4_29 ?_
  refine ax_iand hC dJ6_bitCount_0f7a4_32 ?_
  refine ax_istore_n hC [(0, .int (((((x - (((x.toUInt32 >>> ((1 : Int32).toUInt32 &&& Int32.toUInt32 31)).toInt32) &&& (1431655765))) &&& (858993459)) + ((((x - (((x.toUInt32 >>> ((1 : Int32).toUInt32 &&& Int32.toUInt32 31)).toInt32) &&& (1431655765))).toUInt32 >>> ((2 : Int32).toUInt32 &&& Int32.toUInt32 31)).toInt32) &&& (858993459))) + (((((x - (((x.toUInt32 >>> ((1 : Int32).toUInt32 &&& Int32.toUInt32 31)).toInt32) &&& (1431655765))) &&& (858993459)) + ((((x - (((x.toUInt32 >>> ((1 : Int32).toUInt32 &&& Int32.toUInt32 31)).toInt32) &&& (1431655765))).toUInt32 >>> ((2 : Int32).toUInt32 &&& Int32.toUInt32 31)).toInt32) &&& (858993459))).toUInt32 >>> ((4 : Int32).toUInt32 &&& Int32.toUInt32 31)).toInt32)) &&& (252645135)))] dJ6_bitCount_0f7a4_33 rfl (by decide) rfl ?_
  refine ax_iload_n hC 0 dJ6_bitCount_0f7a4_34 rfl rfl ?_
  refine ax_iload_n hC 0 dJ6_bitCount_0f7a4_35 rfl rfl ?_
  refine ax_bipush (v := 8) hC dJ6_bitCount_0f7a4_36 (by decide) ?_
  refine ax_iushr hC dJ6_bitCount_0f7a4_38 rfl ?_
  refine ax_iadd hC dJ6_bitCount_0f7a4_39 ?_
  refine ax_istore_n hC [(0, .int ((((((x - (((x.toUInt32 >>> ((1 : Int32).toUInt32 &&& Int32.toUInt32 31)).toInt32) &&& (1431655765))) &&& (858993459)) + ((((x - (((x.toUInt32 >>> ((1 : Int32).toUInt32 &&& Int32.toUInt32 31)).toInt32) &&& (1431655765))).toUInt32 >>> ((2 : Int32).toUInt32 &&& Int32.toUInt32 31)).toInt32) &&& (858993459))) + (((((x - (((x.toUInt32 >>> ((1 : Int32).toUInt32 &&& Int32.toUInt32 31)).toInt32) &&& (1431655765))) &&& (858993459)) + ((((x - (((x.toUInt32 >>> ((1 : Int32).toUInt32 &&& Int32.toUInt32 31)).toInt32) &&& (1431655765))).toUInt32 >>> ((2 : Int32).toUInt32 &&& Int32.toUInt32 31)).toInt32) &&& (858993459))).toUInt32 >>> ((4 : Int32).toUInt32 &&& Int32.toUInt32 31)).toInt32)) &&& (252645135)) + (((((((x - (((x.toUInt32 >>> ((1 : Int32).toUInt32 &&& Int32.toUInt32 31)).toInt32) &&& (1431655765))) &&& (858993459)) + ((((x - (((x.toUInt32 >>> ((1 : Int32).toUInt32 &&& Int32.toUInt32 31)).toInt32) &&& (1431655765))).toUInt32 >>> ((2 : Int32).toUInt32 &&& Int32.toUInt32 31)).toInt32) &&& (858993459))) + (((((x - (((x.toUInt32 >>> ((1 : Int32).toUInt32 &&& Int32.toUInt32 31)).toInt32) &&& (1431655765))) &&& (858993459)) + ((((x - (((x.toUInt32 >>> ((1 : Int32).toUInt32 &&& Int32.toUInt32 31)).toInt32) &&& (1431655765))).toUInt32 >>> ((2 : Int32).toUInt32 &&& Int32.toUInt32 31)).toInt32) &&& (858993459))).toUInt32 >>> ((4 : Int32).toUInt32 &&& Int32.toUInt32 31)).toInt32)) &&& (252645135)).toUInt32 >>> ((8 : Int32).toUInt32 &&& Int32.toUInt32 31)).toInt32)))] dJ6_bitCount_0f7a4_40 rfl (by decide) rfl ?_
  refine ax_iload_n hC 0 dJ6_bitCount_0f7a4_41 rfl rfl ?_
  refine ax_iload_n hC 0 dJ6_bitCount_0f7a4_42 rfl rfl ?_
  refine ax_bipush (v := 16) hC dJ6_bitCount_0f7a4_43 (by decide) ?_
  refine ax_iushr hC dJ6_bitCount_0f7a4_45 rfl ?_
  refine ax_iadd hC dJ6_bitCount_0f7a4_46 ?_
  refine ax_istore_n hC [(0, .int (((((((x - (((x.toUInt32 >>> ((1 : Int32).toUInt32 &&& Int32.toUInt32 31)).toInt32) &&& (1431655765))) &&& (858993459)) + ((((x - (((x.toUInt32 >>> ((1 : Int32).toUInt32 &&& Int32.toUInt32 31)).toInt32) &&& (1431655765))).toUInt32 >>> ((2 : Int32).toUInt32 &&& Int32.toUInt32 31)).toInt32) &&& (858993459))) + (((((x - (((x.toUInt32 >>> ((1 : Int32).toUInt32 &&& Int32.toUInt32 31)).toInt32) &&& (1431655765))) &&& (858993459)) + ((((x - (((x.toUInt32 >>> ((1 : Int32).toUInt32 &&& Int32.toUInt32 31)).toInt32) &&& (1431655765))).toUInt32 >>> ((2 : Int32).toUInt32 &&& Int32.toUInt32 31)).toInt32) &&& (858993459))).toUInt32 >>> ((4 : Int32).toUInt32 &&& Int32.toUInt32 31)).toInt32)) &&& (252645135)) + (((((((x - (((x.toUInt32 >>> ((1 : Int32).toUInt32 &&& Int32.toUInt32 31)).toInt32) &&& (1431655765))) &&& (858993459)) + ((((x - (((x.toUInt32 >>> ((1 : Int32).toUInt32 &&& Int32.toUInt32 31)).toInt32) &&& (1431655765))).toUInt32 >>> ((2 : Int32).toUInt32 &&& Int32.toUInt32 31)).toInt32) &&& (858993459))) + (((((x - (((x.toUInt32 >>> ((1 : Int32).toUInt32 &&& Int32.toUInt32 31)).toInt32) &&& (1431655765))) &&& (858993459)) + ((((x - (((x.toUInt32 >>> ((1 : Int32).toUInt32 &&& Int32.toUInt32 31)).toInt32) &&& (1431655765))).toUInt32 >>> ((2 : Int32).toUInt32 &&& Int32.toUInt32 31)).toInt32) &&& (858993459))).toUInt32 >>> ((4 : Int32).toUInt32 &&& Int32.toUInt32 31)).toInt32)) &&& (252645135)).toUInt32 >>> ((8 : Int32).toUInt32 &&& Int32.toUInt32 31)).toInt32)) + ((((((((x - (((x.toUInt32 >>> ((1 : Int32).toUInt32 &&& Int32.toUInt32 31)).toInt32) &&& (1431655765))) &&& (858993459)) + ((((x - (((x.toUInt32 >>> ((1 : Int32).toUInt32 &&& Int32.toUInt32 31)).toInt32) &&& (1431655765))).toUInt32 >>> ((2 : Int32).toUInt32 &&& Int32.toUInt32 31)).toInt32) &&& (858993459))) + (((((x - (((x.toUInt32 >>> ((1 : Int32).toUInt32 &&& Int32.toUInt32 31)).toInt32) &&& (1431655765))) &&& (858993459)) + ((((x - (((x.toUInt32 >>> ((1 : Int32).toUInt32 &&& Int32.toUInt32 31)).toInt32) &&& (1431655765))).toUInt32 >>> ((2 : Int32).toUInt32 &&& Int32.toUInt32 31)).toInt32) &&& (858993459))).toUInt32 >>> ((4 : Int32).toUInt32 &&& Int32.toUInt32 31)).toInt32)) &&& (252645135)) + (((((((x - (((x.toUInt32 >>> ((1 : Int32).toUInt32 &&& Int32.toUInt32 31)).toInt32) &&& (1431655765))) &&& (858993459)) + ((((x - (((x.toUInt32 >>> ((1 : Int32).toUInt32 &&& Int32.toUInt32 31)).toInt32) &&& (1431655765))).toUInt32 >>> ((2 : Int32).toUInt32 &&& Int32.toUInt32 31)).toInt32) &&& (858993459))) + (((((x - (((x.toUInt32 >>> ((1 : Int32).toUInt32 &&& Int32.toUInt32 31)).toInt32) &&& (1431655765))) &&& (858993459)) + ((((x - (((x.toUInt32 >>> ((1 : Int32).toUInt32 &&& Int32.toUInt32 31)).toInt32) &&& (1431655765))).toUInt32 >>> ((2 : Int32).toUInt32 &&& Int32.toUInt32 31)).toInt32) &&& (858993459))).toUInt32 >>> ((4 : Int32).toUInt32 &&& Int32.toUInt32 31)).toInt32)) &&& (252645135)).toUInt32 >>> ((8 : Int32).toUInt32 &&& Int32.toUInt32 31)).toInt32)).toUInt32 >>> ((16 : Int32).toUInt32 &&& Int32.toUInt32 31)).toInt32)))] dJ6_bitCount_0f7a4_47 rfl (by decide) rfl ?_
  refine ax_iload_n hC 0 dJ6_bitCount_0f7a4_48 rfl rfl ?_
  refine ax_bipush (v := 63) hC dJ6_bitCount_0f7a4_49 (by decide) ?_
  refine ax_iand hC dJ6_bitCount_0f7a4_51 ?_
  refine ax_iret hC hr hlocks dJ6_bitCount_0f7a4_52 ?_
  exact ⟨rfl, rfl, rfl⟩

def behf (T : PT) (x lab : Int32) : Int32 := if rd (pcap T) (pK T) 0 x = 1 ∨ rd (pcap T) (pK T) 0 x = 2 then stepf (pcap T) (pBr T) (pSt T) x 0 else if lab < 0 ∨ (26 : Int32) ≤ lab ∨ ((rd (pcap T) (pLb T) 0 x) >>> (lab &&& 31)) &&& 1 = 0 then x else stepf (pcap T) (pBr T) (pSt T) x (popc ((rd (pcap T) (pLb T) 0 x) &&& ((1 <<< (lab &&& 31)) - 1)))

abbrev rmX7_behind : Room := { frames := 1, cells := 0, slots := 0, locals := 24 }
set_option maxRecDepth 100000 in
set_option maxHeartbeats 4000000 in
theorem c_X7_behind (l : Launch) (D : va_G) (z : Nat → ClassId) (B : Heap) (lo hi : Nat) (h : Nat → Option va_E) (a : Nat) (nd : Int32) (T : PT) (x lab : Int32) (hP : PrC z h a nd T) (hcap : pcap T ≤ 60) (hx : x.toInt < 1000) : Met l yX7_behind wsX7_behind rmX7_behind (KP D vwCl B lo hi h (ty6 z) [.ref a, .int x, .int lab]) (KQp D vwCl B lo hi h (ty6 z) (fun r => r = behf T x lab)) 0 0 (fun q => lo ≤ q) := by
  refine ax_met (by decide) rfl (Nat.le_of_ble_eq_true rfl) (L0 := [(0, .ref a), (1, .int x), (2, .int lab)]) rfl ?_
  intro p e s m args below meth c hC hr hlocks hnm hargs
  refine ax_aload_n hC 0 dX7_behind_0 rfl rfl ?_
  refine ax_iload_n hC 1 dX7_behind_1 rfl rfl ?_
  refine ax_callVp (st := []) hC [.int x] hP.1 rfl (c_X7_kindOf l D z B lo _ h a _ T x hP hcap) (cwV 1 hC.1.2.2.2.2 gX7_behind_X7_kindOf rfl rfl rfl (by decide +kernel) ⟨Nat.le_of_ble_eq_true rfl, Nat.le_of_ble_eq_true rfl⟩) rfl rfl (Nat.le_of_ble_eq_true rfl) dX7_behind_2 ⟨Nat.le_of_ble_eq_true rfl, Nat.le_of_ble_eq_true rfl⟩ (fun r1 er2 => ?_)
  subst er2
  refine ax_istore_n hC [(3, .int (rd (pcap T) (pK T) 0 x)), (0, .ref a), (1, .int x), (2, .int lab)] dX7_behind_5 rfl (by decide) rfl ?_
  refine ax_iload_n hC 0 dX7_behind_6 rfl rfl ?_
  refine ax_iconst (v := 1) hC dX7_behind_7 (by decide) ?_
  refine ax_icmp_eq (tgt := 16) hC dX7_behind_8 (by decide) (fun c3 => ?_) (fun c3 => ?_)
  · refine ax_aload_n hC 1 dX7_behind_16 rfl rfl ?_
    refine ax_iload_n hC 2 dX7_behind_17 rfl rfl ?_
    refine ax_iconst (v := 0) hC dX7_behind_18 (by decide) ?_
    refine ax_callVp (st := []) hC [.int x, .int 0] hP.1 rfl (c_X7_stepOf l D z B lo _ h a _ T x 0 hP hcap hx) (cwV 2 hC.1.2.2.2.2 gX7_behind_X7_stepOf rfl rfl rfl (by decide +kernel) ⟨Nat.le_of_ble_eq_true rfl, Nat.le_of_ble_eq_true rfl⟩) rfl rfl (Nat.le_of_ble_eq_true rfl) dX7_behind_19 ⟨Nat.le_of_ble_eq_true rfl, Nat.le_of_ble_eq_true rfl⟩ (fun r4 er5 => ?_)
    subst er5
    refine ax_iret hC hr hlocks dX7_behind_22 ?_
    refine ⟨?_, rfl, rfl⟩
    rw [behf, if_pos (Or.inl c3)]
  · refine ax_iload_n hC 0 dX7_behind_11 rfl rfl ?_
    refine ax_iconst (v := 2) hC dX7_behind_12 (by decide) ?_
    refine ax_icmp_ne (tgt := 23) hC dX7_behind_13 (by decide) (fun c6 => ?_) (fun c6 => ?_)
    · refine ax_aload_n hC 1 dX7_behind_23 rfl rfl ?_
      refine ax_iload_n hC 2 dX7_behind_24 rfl rfl ?_
      refine ax_callVp (st := []) hC [.int x] hP.1 rfl (c_X7_labelsOf l D z B lo _ h a _ T x hP hcap) (cwV 1 hC.1.2.2.2.2 gX7_behind_X7_labelsOf rfl rfl rfl (by decide +kernel) ⟨Nat.le_of_ble_eq_true rfl, Nat.le_of_ble_eq_true rfl⟩) rfl rfl (Nat.le_of_ble_eq_true rfl) dX7_behind_25 ⟨Nat.le_of_ble_eq_true rfl, Nat.le_of_ble_eq_true rfl⟩ (fun r7 er8 => ?_)
      subst er8
      refine ax_istore hC [(4, .int (rd (pcap T) (pLb T) 0 x)), (3, .int (rd (pcap T) (pK T) 0 x)), (0, .ref a), (1, .int x), (2, .int lab)] dX7_behind_28 (by decide) rfl ?_
      refine ax_iload_n hC 4 dX7_behind_30 rfl rfl ?_
      refine ax_if_lt (tgt := 49) hC dX7_behind_31 (by decide) (fun c9 => ?_) (fun c9 => ?_)
      · refine ax_iload_n hC 3 dX7_behind_49 rfl rfl ?_
        refine ax_iret hC hr hlocks dX7_behind_50 ?_
        refine ⟨?_, rfl, rfl⟩
        rw [behf, if_neg (by rintro (q | q); exact c3 q; exact c6 q), if_pos (Or.inl c9)]
      · refine ax_iload_n hC 4 dX7_behind_34 rfl rfl ?_
        refine ax_bipush (v := 26) hC dX7_behind_35 (by decide) ?_
        refine ax_icmp_ge (tgt := 49) hC dX7_behind_37 (by decide) (fun c10 => ?_) (fun c10 => ?_)
        · refine ax_iload_n hC 3 dX7_behind_49 rfl rfl ?_
          refine ax_iret hC hr hlocks dX7_behind_50 ?_
          refine ⟨?_, rfl, rfl⟩
          rw [behf, if_neg (by rintro (q | q); exact c3 q; exact c6 q), if_pos (Or.inr (Or.inl c10))]
        · refine ax_iload hC 0 dX7_behind_40 rfl ?_
          refine ax_iload_n hC 4 dX7_behind_42 rfl rfl ?_
          refine ax_ishr hC dX7_behind_43 ?_
          refine ax_iconst (v := 1) hC dX7_behind_44 (by decide) ?_
          refine ax_iand hC dX7_behind_45 ?_
          refine ax_if_ne (tgt := 51) hC dX7_behind_46 (by decide) (fun c11 => ?_) (fun c11 => ?_)
          · refine ax_aload_n hC 2 dX7_behind_51 rfl rfl ?_
            refine ax_iload_n hC 3 dX7_behind_52 rfl rfl ?_
            refine ax_iload hC 0 dX7_behind_53 rfl ?_
            refine ax_iconst (v := 1) hC dX7_behind_55 (by decide) ?_
            refine ax_iload_n hC 4 dX7_behind_56 rfl rfl ?_
            refine ax_ishl hC dX7_behind_57 ?_
            refine ax_iconst (v := 1) hC dX7_behind_58 (by decide) ?_
            refine ax_isub hC dX7_behind_59 ?_
            refine ax_iand hC dX7_behind_60 ?_
            refine ax_callSp (st := [.int x, .ref a]) hC [.int ((rd (pcap T) (pLb T) 0 x) &&& ((1 <<< (lab &&& 31)) - 1))] (c_J6_bitCount_0f7a4 l D z B lo _ h ((rd (pcap T) (pLb T) 0 x) &&& ((1 <<< (lab &&& 31)) - 1))) (va_cwS 1 hC.1.2.2.2.2 gX7_behind_J6_bitCount_0f7a4 rfl rfl rfl (by decide +kernel) ⟨Nat.le_of_ble_eq_true rfl, Nat.le_of_ble_eq_true rfl⟩) rfl rfl (Nat.le_of_ble_eq_true rfl) dX7_behind_61 ⟨Nat.le_of_ble_eq_true rfl, Nat.le_of_ble_eq_true rfl⟩ (fun r12 er13 => ?_)
            subst er13
            refine ax_callVp (st := []) hC [.int x, .int (popc ((rd (pcap T) (pLb T) 0 x) &&& ((1 <<< (lab &&& 31)) - 1)))] hP.1 rfl (c_X7_stepOf l D z B lo _ h a _ T x (popc ((rd (pcap T) (pLb T) 0 x) &&& ((1 <<< (lab &&& 31)) - 1))) hP hcap hx) (cwV 2 hC.1.2.2.2.2 gX7_behind_X7_stepOf rfl rfl rfl (by decide +kernel) ⟨Nat.le_of_ble_eq_true rfl, Nat.le_of_ble_eq_true rfl⟩) rfl rfl (Nat.le_of_ble_eq_true rfl) dX7_behind_64 ⟨Nat.le_of_ble_eq_true rfl, Nat.le_of_ble_eq_true rfl⟩ (fun r14 er15 => ?_)
            subst er15
            refine ax_iret hC hr hlocks dX7_behind_67 ?_
            refine ⟨?_, rfl, rfl⟩
            rw [behf, if_neg (by rintro (q | q); exact c3 q; exact c6 q), if_neg (by rintro (q | q | q); exact c9 q; exact c10 q; exact c11 q)]
          · refine ax_iload_n hC 3 dX7_behind_49 rfl rfl ?_
            refine ax_iret hC hr hlocks dX7_behind_50 ?_
            refine ⟨?_, rfl, rfl⟩
            rw [behf, if_neg (by rintro (q | q); exact c3 q; exact c6 q), if_pos (Or.inr (Or.inr c11))]
    · refine ax_aload_n hC 1 dX7_behind_16 rfl rfl ?_
      refine ax_iload_n hC 2 dX7_behind_17 rfl rfl ?_
      refine ax_iconst (v := 0) hC dX7_behind_18 (by decide) ?_
      refine ax_callVp (st := []) hC [.int x, .int 0] hP.1 rfl (c_X7_stepOf l D z B lo _ h a _ T x 0 hP hcap hx) (cwV 2 hC.1.2.2.2.2 gX7_behind_X7_stepOf rfl rfl rfl (by decide +kernel) ⟨Nat.le_of_ble_eq_true rfl, Nat.le_of_ble_eq_true rfl⟩) rfl rfl (Nat.le_of_ble_eq_true rfl) dX7_behind_19 ⟨Nat.le_of_ble_eq_true rfl, Nat.le_of_ble_eq_true rfl⟩ (fun r16 er17 => ?_)
      subst er17
      refine ax_iret hC hr hlocks dX7_behind_22 ?_
      refine ⟨?_, rfl, rfl⟩
      rw [behf, if_pos (Or.inr c6)]

abbrev rmX7_isStateOutside : Room := { frames := 1, cells := 0, slots := 0, locals := 21 }
set_option maxRecDepth 100000 in
set_option maxHeartbeats 4000000 in
theorem c_X7_isStateOutside (l : Launch) (D : va_G) (z : Nat → ClassId) (B : Heap) (lo hi : Nat) (h : Nat → Option va_E) (a : Nat) (nd : Int32) (T : PT) (x : Int32) (hP : PrC z h a nd T) (hcap : pcap T ≤ 60) : Met l yX7_isStateOutside wsX7_isStateOutside rmX7_isStateOutside (KP D vwCl B lo hi h (ty6 z) [.ref a, .int x]) (KQp D vwCl B lo hi h (ty6 z) (fun r => r = 0 ∨ r = 1)) 0 0 (fun q => lo ≤ q) := by
  refine ax_met (by decide) rfl (Nat.le_of_ble_eq_true rfl) (L0 := [(0, .ref a), (1, .int x)]) rfl ?_
  intro p e s m args below meth c hC hr hlocks hnm hargs
  have iX7 : ∀ w ∈ u_ws RX7 TX7 9, w ∈ wsX7_isStateOutside := by decide +kernel
  refine ax_iload_n hC 1 dX7_isStateOutside_0 rfl rfl ?_
  refine ax_if_lt (tgt := 35) hC dX7_isStateOutside_1 (by decide) (fun c1 => ?_) (fun c1 => ?_)
  · refine ax_iconst (v := 0) hC dX7_isStateOutside_35 (by decide) ?_
    refine ax_zret hC hr hlocks dX7_isStateOutside_36 (by decide) ?_
    exact ⟨Or.inl rfl, rfl, rfl⟩
  · refine ax_iload_n hC 1 dX7_isStateOutside_4 rfl rfl ?_
    refine ax_aload_n hC 0 dX7_isStateOutside_5 rfl rfl ?_
    refine ax_getf (v := .ref (a + 5)) hC hP.1 iX7 rfl 5 (by decide) (by decide +kernel) rfl rfl dX7_isStateOutside_6 ?_
    refine ax_alen (v := nI (pcap T)) hC hP.2.2.2.2.2.1 1 rfl rfl dX7_isStateOutside_9 ?_
    refine ax_icmp_ge (tgt := 35) hC dX7_isStateOutside_10 (by decide) (fun c2 => ?_) (fun c2 => ?_)
    · refine ax_iconst (v := 0) hC dX7_isStateOutside_35 (by decide) ?_
      refine ax_zret hC hr hlocks dX7_isStateOutside_36 (by decide) ?_
      exact ⟨Or.inl rfl, rfl, rfl⟩
    · refine ax_aload_n hC 0 dX7_isStateOutside_13 rfl rfl ?_
      refine ax_getf (v := .ref (a + 5)) hC hP.1 iX7 rfl 5 (by decide) (by decide +kernel) rfl rfl dX7_isStateOutside_14 ?_
      refine ax_iload_n hC 1 dX7_isStateOutside_17 rfl rfl ?_
      have b3 : vp_in x (pcap T) := vin_aa c1 c2 (by first | decide | omega)
      refine ax_iald hC hP.2.2.2.2.2.1 1 rfl b3 dX7_isStateOutside_18 ?_
      refine ax_if_ne (tgt := 35) hC dX7_isStateOutside_19 (by decide) (fun c4 => ?_) (fun c4 => ?_)
      · refine ax_iconst (v := 0) hC dX7_isStateOutside_35 (by decide) ?_
        refine ax_zret hC hr hlocks dX7_isStateOutside_36 (by decide) ?_
        exact ⟨Or.inl rfl, rfl, rfl⟩
      · refine ax_aload_n hC 0 dX7_isStateOutside_22 rfl rfl ?_
        refine ax_iload_n hC 1 dX7_isStateOutside_23 rfl rfl ?_
        refine ax_callVp (st := []) hC [.int x] hP.1 rfl (c_X7_kindOf l D z B lo _ h a _ T x hP hcap) (cwV 1 hC.1.2.2.2.2 gX7_isStateOutside_X7_kindOf rfl rfl rfl (by decide +kernel) ⟨Nat.le_of_ble_eq_true rfl, Nat.le_of_ble_eq_true rfl⟩) rfl rfl (Nat.le_of_ble_eq_true rfl) dX7_isStateOutside_24 ⟨Nat.le_of_ble_eq_true rfl, Nat.le_of_ble_eq_true rfl⟩ (fun r5 er6 => ?_)
        subst er6
        refine ax_iconst (v := 4) hC dX7_isStateOutside_27 (by decide) ?_
        refine ax_icmp_gt (tgt := 35) hC dX7_isStateOutside_28 (by decide) (fun c7 => ?_) (fun c7 => ?_)
        · refine ax_iconst (v := 0) hC dX7_isStateOutside_35 (by decide) ?_
          refine ax_zret hC hr hlocks dX7_isStateOutside_36 (by decide) ?_
          exact ⟨Or.inl rfl, rfl, rfl⟩
        · refine ax_iconst (v := 1) hC dX7_isStateOutside_31 (by decide) ?_
          refine ax_goto (tgt := 36) hC dX7_isStateOutside_32 (by decide) ?_
          refine ax_zret hC hr hlocks dX7_isStateOutside_36 (by decide) ?_
          exact ⟨Or.inr rfl, rfl, rfl⟩
