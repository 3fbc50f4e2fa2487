theorem branchf_lo {cap : Nat} {Br : Nat → Int32} {x r : Int32} (h : x < 0 ∨ r < 0) : branchf cap Br x r = -1 := if_neg (fun z => by rw [i32_lt, i32_lt, Int32.toInt_zero] at h; omega)
theorem branchf_hi {cap : Nat} {Br : Nat → Int32} {x r : Int32} (h : (6 : Int32) ≤ r) : branchf cap Br x r = -1 := if_neg (fun z => by rw [i32_le, show (6 : Int32).toInt = 6 by decide] at h; omega)
theorem branchf_out {cap : Nat} {Br : Nat → Int32} {x r : Int32} (hcap : cap ≤ 60) (hx0 : ¬ x < 0) (hx : x.toInt < 1000) (hr0 : ¬ r < 0) (hr : ¬ (6 : Int32) ≤ r) (h : nI (6 * cap) ≤ x * 6 + r) : branchf cap Br x r = -1 := by
  obtain ⟨e, h1, h2, h3⟩ := six_facts hx0 hx hr0 hr
  rw [i32_le, nI_toInt (by omega), e] at h
  exact if_neg (fun z => by omega)
theorem branchf_in {cap : Nat} {Br : Nat → Int32} {x r : Int32} (hcap : cap ≤ 60) (hx0 : ¬ x < 0) (hx : x.toInt < 1000) (hr0 : ¬ r < 0) (hr : ¬ (6 : Int32) ≤ r) (h : ¬ nI (6 * cap) ≤ x * 6 + r) : branchf cap Br x r = Br (x * 6 + r).toNatClampNeg := by
  obtain ⟨e, h1, h2, h3⟩ := six_facts hx0 hx hr0 hr
  rw [i32_le, nI_toInt (by omega), e] at h
  have h4 : (x * 6 + r).toNatClampNeg = (x.toInt * 6 + r.toInt).toNat := by rw [← e]; rfl
  rw [branchf, if_pos ⟨h1, h2, h3, by omega⟩, h4]
abbrev rmX7_branchNode : Room := { frames := 0, cells := 0, slots := 0, locals := 0 }
set_option maxRecDepth 100000 in
set_option maxHeartbeats 4000000 in
theorem c_X7_branchNode (l : Launch) (D : va_G) (z : Nat → ClassId) (B : Heap) (lo hi : Nat) (h : Nat → Option va_E) (a : Nat) (nd : Int32) (T : PT) (x r : Int32) (hP : PrC z h a nd T) (hcap : pcap T ≤ 60) (hx : x.toInt < 1000) : Met l yX7_branchNode wsX7_branchNode rmX7_branchNode (KP D vwCl B lo hi h (ty6 z) [.ref a, .int x, .int r]) (KQp D vwCl B lo hi h (ty6 z) (fun v => v = branchf (pcap T) (pBr T) x r)) 0 0 (fun q => lo ≤ q) := by
  refine ax_met (by decide) rfl (Nat.le_of_ble_eq_true rfl) (L0 := [(0, .ref a), (1, .int x), (2, .int r)]) rfl ?_
  intro p e s m args below meth c hC hr hlocks hnm hargs
  have iX7 : ∀ w ∈ u_ws RX7 TX7 9, w ∈ wsX7_branchNode := by decide +kernel
  refine ax_iload_n hC 1 dX7_branchNode_0 rfl rfl ?_
  refine ax_bipush (v := 6) hC dX7_branchNode_1 (by decide) ?_
  refine ax_imul hC dX7_branchNode_3 ?_
  refine ax_iload_n hC 2 dX7_branchNode_4 rfl rfl ?_
  refine ax_iadd hC dX7_branchNode_5 ?_
  refine ax_istore_n hC [(3, .int ((x * 6) + r)), (0, .ref a), (1, .int x), (2, .int r)] dX7_branchNode_6 rfl (by decide) rfl ?_
  refine ax_iload_n hC 2 dX7_branchNode_7 rfl rfl ?_
  refine ax_if_lt (tgt := 39) hC dX7_branchNode_8 (by decide) (fun c1 => ?_) (fun c1 => ?_)
  · refine ax_iconst (v := (-1)) hC dX7_branchNode_39 (by decide) ?_
    refine ax_iret hC hr hlocks dX7_branchNode_40 ?_
    exact ⟨(branchf_lo (Or.inl c1)).symm, rfl, rfl⟩
  · refine ax_iload_n hC 3 dX7_branchNode_11 rfl rfl ?_
    refine ax_if_lt (tgt := 39) hC dX7_branchNode_12 (by decide) (fun c2 => ?_) (fun c2 => ?_)
    · refine ax_iconst (v := (-1)) hC dX7_branchNode_39 (by decide) ?_
      refine ax_iret hC hr hlocks dX7_branchNode_40 ?_
      exact ⟨(branchf_lo (Or.inr c2)).symm, rfl, rfl⟩
    · refine ax_iload_n hC 3 dX7_branchNode_15 rfl rfl ?_
      refine ax_bipush (v := 6) hC dX7_branchNode_16 (by decide) ?_
      refine ax_icmp_ge (tgt := 39) hC dX7_branchNode_18 (by decide) (fun c3 => ?_) (fun c3 => ?_)
      · refine ax_iconst (v := (-1)) hC dX7_branchNode_39 (by decide) ?_
        refine ax_iret hC hr hlocks dX7_branchNode_40 ?_
        exact ⟨(branchf_hi c3).symm, rfl, rfl⟩
      · refine ax_iload_n hC 0 dX7_branchNode_21 rfl rfl ?_
        refine ax_aload_n hC 1 dX7_branchNode_22 rfl rfl ?_
        refine ax_getf (v := .ref (a + 7)) hC hP.1 iX7 rfl 7 (by decide) (by decide +kernel) rfl rfl dX7_branchNode_23 ?_
        refine ax_alen (v := nI (6 * pcap T)) hC hP.2.2.2.2.2.2.2.1 1 rfl rfl dX7_branchNode_26 ?_
        refine ax_icmp_ge (tgt := 39) hC dX7_branchNode_27 (by decide) (fun c4 => ?_) (fun c4 => ?_)
        · refine ax_iconst (v := (-1)) hC dX7_branchNode_39 (by decide) ?_
          refine ax_iret hC hr hlocks dX7_branchNode_40 ?_
          exact ⟨(branchf_out hcap c1 hx c2 c3 c4).symm, rfl, rfl⟩
        · refine ax_aload_n hC 1 dX7_branchNode_30 rfl rfl ?_
          refine ax_getf (v := .ref (a + 7)) hC hP.1 iX7 rfl 7 (by decide) (by decide +kernel) rfl rfl dX7_branchNode_31 ?_
          refine ax_iload_n hC 0 dX7_branchNode_34 rfl rfl ?_
          have b5 : vp_in ((x * 6) + r) (6 * pcap T) := six_in hcap c1 hx c2 c3 (Int32.not_le.mp c4)
          refine ax_iald hC hP.2.2.2.2.2.2.2.1 1 rfl b5 dX7_branchNode_35 ?_
          refine ax_goto (tgt := 40) hC dX7_branchNode_36 (by decide) ?_
          refine ax_iret hC hr hlocks dX7_branchNode_40 ?_
          exact ⟨(branchf_in hcap c1 hx c2 c3 c4).symm, rfl, rfl⟩

abbrev rmX7_rowFrom : Room := { frames := 1, cells := 0, slots := 0, locals := 40 }
set_option maxRecDepth 100000 in
set_option maxHeartbeats 4000000 in
theorem c_X7_rowFrom (l : Launch) (D : va_G) (z : Nat → ClassId) (B : Heap) (lo hi : Nat) (h : Nat → Option va_E) (a ro u : Nat) (nd side : Int32) (T : PT) (g : Nat → Int32) (hP : PrC z h a nd T) (hcap : pcap T ≤ 60) (hu : u < pcap T) (hro : h ro = some (.inl (z 1, 60, .inl g))) : Met l yX7_rowFrom wsX7_rowFrom rmX7_rowFrom (KP D vwCl B lo hi h (ty6 z) [.ref a, .int (nI u), .int side, .ref ro]) (KQp D vwCl B lo hi h (ty6 z) (fun _ => True)) 0 0 (fun q => lo ≤ q) := by
  refine ax_met (by decide) rfl (Nat.le_of_ble_eq_true rfl) (L0 := [(0, .ref a), (1, .int (nI u)), (2, .int side), (3, .ref ro)]) rfl ?_
  intro p e s m args below meth c hC hr hlocks hnm hargs
  have LP : ∀ (n : Nat) (sv : Int32) (k : Nat) (mo : Int32), k + n = sv.toInt.toNat → Gx p l e rmX7_rowFrom s m args below meth c D vwCl B lo 10 (MQ below (KQp D vwCl B lo hi h (ty6 z) (fun _ => True)) args s 0 0 (fun q => lo ≤ q)) hi h 0 0 [(8, .int (nI k)), (7, .int mo), (6, .int sv), (3, .ref ro), (1, .int (nI u)), (0, .ref a)] 89 [] := by
    intro n
    induction n with
    | zero =>
      intro sv k mo hkn
      have hsv := Int32.toInt_lt sv
      refine ax_iload hC 0 dX7_rowFrom_89 rfl ?_
      refine ax_iload hC 2 dX7_rowFrom_91 rfl ?_
      refine ax_icmp_ge (tgt := 134) hC dX7_rowFrom_93 (by decide) (fun c103001 => ?_) (fun c103001 => ?_)
      · refine ax_iconst (v := 1) hC dX7_rowFrom_134 (by decide) ?_
        refine ax_iload hC 1 dX7_rowFrom_135 rfl ?_
        refine ax_iadd hC dX7_rowFrom_137 ?_
        refine ax_iret hC hr hlocks dX7_rowFrom_138 ?_
        exact ⟨trivial, rfl, rfl⟩
      · exact absurd (by rw [i32_le, nI_toInt (by omega)]; omega) c103001
    | succ n ih =>
      intro sv k mo hkn
      have hsv := Int32.toInt_lt sv
      refine ax_iload hC 0 dX7_rowFrom_89 rfl ?_
      refine ax_iload hC 2 dX7_rowFrom_91 rfl ?_
      refine ax_icmp_ge (tgt := 134) hC dX7_rowFrom_93 (by decide) (fun c104001 => ?_) (fun c104001 => ?_)
      · exact absurd c104001 (by rw [i32_le, nI_toInt (by omega)]; omega)
      · refine ax_aload_n hC 5 dX7_rowFrom_96 rfl rfl ?_
        refine ax_iload_n hC 4 dX7_rowFrom_97 rfl rfl ?_
        refine ax_iload hC 0 dX7_rowFrom_98 rfl ?_
        refine ax_callVp (st := []) hC [.int (nI u), .int (nI k)] hP.1 rfl (c_X7_stepOf l D z B lo _ h a _ T (nI u) (nI k) hP hcap (by rw [nI_toInt (by omega)]; omega)) (cwV 2 hC.1.2.2.2.2 gX7_rowFrom_X7_stepOf rfl rfl rfl (by decide +kernel) ⟨Nat.le_of_ble_eq_true rfl, Nat.le_of_ble_eq_true rfl⟩) rfl rfl (Nat.le_of_ble_eq_true rfl) dX7_rowFrom_100 ⟨Nat.le_of_ble_eq_true rfl, Nat.le_of_ble_eq_true rfl⟩ (fun r104002 er104003 => ?_)
        subst er104003
        refine ax_topi (fun nx e_nx => ?_)
        refine ax_istore hC [(9, .int nx), (8, .int (nI k)), (7, .int mo), (6, .int sv), (3, .ref ro), (1, .int (nI u)), (0, .ref a)] dX7_rowFrom_103 (by decide) rfl ?_
        refine ax_iload hC 0 dX7_rowFrom_105 rfl ?_
        refine ax_if_lt (tgt := 128) hC dX7_rowFrom_107 (by decide) (fun c104004 => ?_) (fun c104004 => ?_)
        · refine ax_iinc (v := nI (k + 1)) hC 1 [(8, .int (nI (k + 1))), (9, .int nx), (7, .int mo), (6, .int sv), (3, .ref ro), (1, .int (nI u)), (0, .ref a)] dX7_rowFrom_128 rfl (nI_1 _) (by decide) rfl ?_
          refine ax_goto (tgt := 89) hC dX7_rowFrom_131 (by decide) ?_
          refine ax_locals [0, 2, 3, 4, 5, 6] (L' := [(8, .int (nI (k + 1))), (7, .int mo), (6, .int sv), (3, .ref ro), (1, .int (nI u)), (0, .ref a)]) rfl ?_
          exact ih sv (k + 1) (mo) (by omega)
        · refine ax_iload hC 0 dX7_rowFrom_110 rfl ?_
          refine ax_aload_n hC 4 dX7_rowFrom_112 rfl rfl ?_
          refine ax_alen (v := 60) hC hro 1 rfl rfl dX7_rowFrom_113 ?_
          refine ax_icmp_ge (tgt := 128) hC dX7_rowFrom_114 (by decide) (fun c104006 => ?_) (fun c104006 => ?_)
          · refine ax_iinc (v := nI (k + 1)) hC 1 [(8, .int (nI (k + 1))), (9, .int nx), (7, .int mo), (6, .int sv), (3, .ref ro), (1, .int (nI u)), (0, .ref a)] dX7_rowFrom_128 rfl (nI_1 _) (by decide) rfl ?_
            refine ax_goto (tgt := 89) hC dX7_rowFrom_131 (by decide) ?_
            refine ax_locals [0, 2, 3, 4, 5, 6] (L' := [(8, .int (nI (k + 1))), (7, .int mo), (6, .int sv), (3, .ref ro), (1, .int (nI u)), (0, .ref a)]) rfl ?_
            exact ih sv (k + 1) (mo) (by omega)
          · refine ax_iload hC 2 dX7_rowFrom_117 rfl ?_
            refine ax_aload_n hC 4 dX7_rowFrom_119 rfl rfl ?_
            refine ax_iload hC 0 dX7_rowFrom_120 rfl ?_
            have b104008 : vp_in nx 60 := vin_aa c104004 c104006 (by first | decide | omega)
            refine ax_iald hC hro 1 rfl b104008 dX7_rowFrom_122 ?_
            refine ax_mmax hC (by decide +kernel) (by decide +kernel) (by decide +kernel) (by decide +kernel) (Nat.le_of_ble_eq_true rfl) (Nat.le_of_ble_eq_true rfl) (Nat.le_of_ble_eq_true rfl) (Nat.le_of_ble_eq_true rfl) dX7_rowFrom_123 ?_
            refine ax_istore hC [(7, .int (if mo < (g nx.toNatClampNeg) then (g nx.toNatClampNeg) else mo)), (9, .int nx), (8, .int (nI k)), (6, .int sv), (3, .ref ro), (1, .int (nI u)), (0, .ref a)] dX7_rowFrom_126 (by decide) rfl ?_
            refine ax_iinc (v := nI (k + 1)) hC 2 [(8, .int (nI (k + 1))), (7, .int (if mo < (g nx.toNatClampNeg) then (g nx.toNatClampNeg) else mo)), (9, .int nx), (6, .int sv), (3, .ref ro), (1, .int (nI u)), (0, .ref a)] dX7_rowFrom_128 rfl (nI_1 _) (by decide) rfl ?_
            refine ax_goto (tgt := 89) hC dX7_rowFrom_131 (by decide) ?_
            refine ax_locals [0, 1, 3, 4, 5, 6] (L' := [(8, .int (nI (k + 1))), (7, .int (if mo < (g nx.toNatClampNeg) then (g nx.toNatClampNeg) else mo)), (6, .int sv), (3, .ref ro), (1, .int (nI u)), (0, .ref a)]) rfl ?_
            exact ih sv (k + 1) (if mo < (g nx.toNatClampNeg) then (g nx.toNatClampNeg) else mo) (by omega)
  refine ax_aload_n hC 0 dX7_rowFrom_0 rfl rfl ?_
  refine ax_iload_n hC 1 dX7_rowFrom_1 rfl rfl ?_
  refine ax_callVp (st := []) hC [.int (nI u)] hP.1 rfl (c_X7_kindOf l D z B lo _ h a _ T (nI u) hP hcap) (cwV 1 hC.1.2.2.2.2 gX7_rowFrom_X7_kindOf rfl rfl rfl (by decide +kernel) ⟨Nat.le_of_ble_eq_true rfl, Nat.le_of_ble_eq_true rfl⟩) rfl rfl (Nat.le_of_ble_eq_true rfl) dX7_rowFrom_2 ⟨Nat.le_of_ble_eq_true rfl, Nat.le_of_ble_eq_true rfl⟩ (fun r1 er2 => ?_)
  subst er2
  refine ax_eqi (y := pK T u) (rd_nat hu (by omega)) ?_
  refine ax_istore hC [(4, .int (pK T u)), (0, .ref a), (1, .int (nI u)), (2, .int side), (3, .ref ro)] dX7_rowFrom_5 (by decide) rfl ?_
  refine ax_iload_n hC 3 dX7_rowFrom_7 rfl rfl ?_
  refine ax_if_ne (tgt := 31) hC dX7_rowFrom_8 (by decide) (fun c3 => ?_) (fun c3 => ?_)
  · refine ax_iload hC 0 dX7_rowFrom_31 rfl ?_
    refine ax_iconst (v := 2) hC dX7_rowFrom_33 (by decide) ?_
    refine ax_icmp_eq (tgt := 43) hC dX7_rowFrom_34 (by decide) (fun c4 => ?_) (fun c4 => ?_)
    · refine ax_iconst (v := 1) hC dX7_rowFrom_43 (by decide) ?_
      refine ax_goto (tgt := 48) hC dX7_rowFrom_44 (by decide) ?_
      refine ax_istore hC [(5, .int 1), (4, .int (pK T u)), (0, .ref a), (1, .int (nI u)), (2, .int side), (3, .ref ro)] dX7_rowFrom_48 (by decide) rfl ?_
      refine ax_iload hC 0 dX7_rowFrom_50 rfl ?_
      refine ax_if_ne (tgt := 57) hC dX7_rowFrom_52 (by decide) (fun c5 => ?_) (fun c5 => ?_)
      · refine ax_iload hC 1 dX7_rowFrom_57 rfl ?_
        refine ax_iconst (v := 3) hC dX7_rowFrom_59 (by decide) ?_
        refine ax_icmp_eq (tgt := 69) hC dX7_rowFrom_60 (by decide) (fun c6 => ?_) (fun c6 => ?_)
        · exact absurd (c4.symm.trans c6) (by decide)
        · refine ax_iload hC 1 dX7_rowFrom_63 rfl ?_
          refine ax_iconst (v := 4) hC dX7_rowFrom_65 (by decide) ?_
          refine ax_icmp_ne (tgt := 80) hC dX7_rowFrom_66 (by decide) (fun c7 => ?_) (fun c7 => ?_)
          · refine ax_iconst (v := 1) hC dX7_rowFrom_80 (by decide) ?_
            refine ax_istore hC [(6, .int 1), (5, .int 1), (4, .int (pK T u)), (0, .ref a), (1, .int (nI u)), (2, .int side), (3, .ref ro)] dX7_rowFrom_81 (by decide) rfl ?_
            refine ax_iconst (v := 0) hC dX7_rowFrom_83 (by decide) ?_
            refine ax_istore hC [(7, .int 0), (6, .int 1), (5, .int 1), (4, .int (pK T u)), (0, .ref a), (1, .int (nI u)), (2, .int side), (3, .ref ro)] dX7_rowFrom_84 (by decide) rfl ?_
            refine ax_iconst (v := 0) hC dX7_rowFrom_86 (by decide) ?_
            refine ax_istore hC [(8, .int 0), (7, .int 0), (6, .int 1), (5, .int 1), (4, .int (pK T u)), (0, .ref a), (1, .int (nI u)), (2, .int side), (3, .ref ro)] dX7_rowFrom_87 (by decide) rfl ?_
            refine ax_locals [0, 1, 2, 8, 6, 5] (L' := [(8, .int 0), (7, .int 0), (6, .int 1), (3, .ref ro), (1, .int (nI u)), (0, .ref a)]) rfl ?_
            exact LP (1 : Int32).toInt.toNat (1) 0 0 (Nat.zero_add _)
          · exact absurd (c4.symm.trans c7) (by decide)
      · exact absurd c5 (by decide)
    · refine ax_iload hC 0 dX7_rowFrom_37 rfl ?_
      refine ax_iconst (v := 4) hC dX7_rowFrom_39 (by decide) ?_
      refine ax_icmp_ne (tgt := 47) hC dX7_rowFrom_40 (by decide) (fun c8 => ?_) (fun c8 => ?_)
      · refine ax_iconst (v := 0) hC dX7_rowFrom_47 (by decide) ?_
        refine ax_istore hC [(5, .int 0), (4, .int (pK T u)), (0, .ref a), (1, .int (nI u)), (2, .int side), (3, .ref ro)] dX7_rowFrom_48 (by decide) rfl ?_
        refine ax_iload hC 0 dX7_rowFrom_50 rfl ?_
        refine ax_if_ne (tgt := 57) hC dX7_rowFrom_52 (by decide) (fun c9 => ?_) (fun c9 => ?_)
        · exact absurd c9 (by decide)
        · refine ax_iconst (v := 0) hC dX7_rowFrom_55 (by decide) ?_
          refine ax_iret hC hr hlocks dX7_rowFrom_56 ?_
          exact ⟨trivial, rfl, rfl⟩
      · refine ax_iconst (v := 1) hC dX7_rowFrom_43 (by decide) ?_
        refine ax_goto (tgt := 48) hC dX7_rowFrom_44 (by decide) ?_
        refine ax_istore hC [(5, .int 1), (4, .int (pK T u)), (0, .ref a), (1, .int (nI u)), (2, .int side), (3, .ref ro)] dX7_rowFrom_48 (by decide) rfl ?_
        refine ax_iload hC 0 dX7_rowFrom_50 rfl ?_
        refine ax_if_ne (tgt := 57) hC dX7_rowFrom_52 (by decide) (fun c10 => ?_) (fun c10 => ?_)
        · refine ax_iload hC 1 dX7_rowFrom_57 rfl ?_
          refine ax_iconst (v := 3) hC dX7_rowFrom_59 (by decide) ?_
          refine ax_icmp_eq (tgt := 69) hC dX7_rowFrom_60 (by decide) (fun c11 => ?_) (fun c11 => ?_)
          · exact absurd (c8.symm.trans c11) (by decide)
          · refine ax_iload hC 1 dX7_rowFrom_63 rfl ?_
            refine ax_iconst (v := 4) hC dX7_rowFrom_65 (by decide) ?_
            refine ax_icmp_ne (tgt := 80) hC dX7_rowFrom_66 (by decide) (fun c12 => ?_) (fun c12 => ?_)
            · exact absurd c8 c12
            · refine ax_aload_n hC 2 dX7_rowFrom_69 rfl rfl ?_
              refine ax_iload_n hC 3 dX7_rowFrom_70 rfl rfl ?_
              refine ax_callVp (st := []) hC [.int (nI u)] hP.1 rfl (c_X7_labelsOf l D z B lo _ h a _ T (nI u) hP hcap) (cwV 1 hC.1.2.2.2.2 gX7_rowFrom_X7_labelsOf rfl rfl rfl (by decide +kernel) ⟨Nat.le_of_ble_eq_true rfl, Nat.le_of_ble_eq_true rfl⟩) rfl rfl (Nat.le_of_ble_eq_true rfl) dX7_rowFrom_71 ⟨Nat.le_of_ble_eq_true rfl, Nat.le_of_ble_eq_true rfl⟩ (fun r13 er14 => ?_)
              subst er14
              refine ax_callSp (st := []) hC [.int (rd (pcap T) (pLb T) 0 (nI u))] (c_J6_bitCount_0f7a4 l D z B lo _ h (rd (pcap T) (pLb T) 0 (nI u))) (va_cwS 1 hC.1.2.2.2.2 gX7_rowFrom_J6_bitCount_0f7a4 rfl rfl rfl (by decide +kernel) ⟨Nat.le_of_ble_eq_true rfl, Nat.le_of_ble_eq_true rfl⟩) rfl rfl (Nat.le_of_ble_eq_true rfl) dX7_rowFrom_74 ⟨Nat.le_of_ble_eq_true rfl, Nat.le_of_ble_eq_true rfl⟩ (fun r15 er16 => ?_)
              subst er16
              refine ax_goto (tgt := 81) hC dX7_rowFrom_77 (by decide) ?_
              refine ax_istore hC [(6, .int (popc (rd (pcap T) (pLb T) 0 (nI u)))), (5, .int 1), (4, .int (pK T u)), (0, .ref a), (1, .int (nI u)), (2, .int side), (3, .ref ro)] dX7_rowFrom_81 (by decide) rfl ?_
              refine ax_iconst (v := 0) hC dX7_rowFrom_83 (by decide) ?_
              refine ax_istore hC [(7, .int 0), (6, .int (popc (rd (pcap T) (pLb T) 0 (nI u)))), (5, .int 1), (4, .int (pK T u)), (0, .ref a), (1, .int (nI u)), (2, .int side), (3, .ref ro)] dX7_rowFrom_84 (by decide) rfl ?_
              refine ax_iconst (v := 0) hC dX7_rowFrom_86 (by decide) ?_
              refine ax_istore hC [(8, .int 0), (7, .int 0), (6, .int (popc (rd (pcap T) (pLb T) 0 (nI u)))), (5, .int 1), (4, .int (pK T u)), (0, .ref a), (1, .int (nI u)), (2, .int side), (3, .ref ro)] dX7_rowFrom_87 (by decide) rfl ?_
              refine ax_locals [0, 1, 2, 8, 6, 5] (L' := [(8, .int 0), (7, .int 0), (6, .int (popc (rd (pcap T) (pLb T) 0 (nI u)))), (3, .ref ro), (1, .int (nI u)), (0, .ref a)]) rfl ?_
              exact LP (popc (rd (pcap T) (pLb T) 0 (nI u)) : Int32).toInt.toNat (popc (rd (pcap T) (pLb T) 0 (nI u))) 0 0 (Nat.zero_add _)
        · exact absurd c10 (by decide)
  · refine ax_iload hC 0 dX7_rowFrom_11 rfl ?_
    refine ax_iconst (v := 1) hC dX7_rowFrom_13 (by decide) ?_
    refine ax_icmp_eq (tgt := 23) hC dX7_rowFrom_14 (by decide) (fun c17 => ?_) (fun c17 => ?_)
    · refine ax_iconst (v := 1) hC dX7_rowFrom_23 (by decide) ?_
      refine ax_goto (tgt := 48) hC dX7_rowFrom_24 (by decide) ?_
      refine ax_istore hC [(5, .int 1), (4, .int (pK T u)), (0, .ref a), (1, .int (nI u)), (2, .int side), (3, .ref ro)] dX7_rowFrom_48 (by decide) rfl ?_
      refine ax_iload hC 0 dX7_rowFrom_50 rfl ?_
      refine ax_if_ne (tgt := 57) hC dX7_rowFrom_52 (by decide) (fun c18 => ?_) (fun c18 => ?_)
      · refine ax_iload hC 1 dX7_rowFrom_57 rfl ?_
        refine ax_iconst (v := 3) hC dX7_rowFrom_59 (by decide) ?_
        refine ax_icmp_eq (tgt := 69) hC dX7_rowFrom_60 (by decide) (fun c19 => ?_) (fun c19 => ?_)
        · exact absurd (c17.symm.trans c19) (by decide)
        · refine ax_iload hC 1 dX7_rowFrom_63 rfl ?_
          refine ax_iconst (v := 4) hC dX7_rowFrom_65 (by decide) ?_
          refine ax_icmp_ne (tgt := 80) hC dX7_rowFrom_66 (by decide) (fun c20 => ?_) (fun c20 => ?_)
          · refine ax_iconst (v := 1) hC dX7_rowFrom_80 (by decide) ?_
            refine ax_istore hC [(6, .int 1), (5, .int 1), (4, .int (pK T u)), (0, .ref a), (1, .int (nI u)), (2, .int side), (3, .ref ro)] dX7_rowFrom_81 (by decide) rfl ?_
            refine ax_iconst (v := 0) hC dX7_rowFrom_83 (by decide) ?_
            refine ax_istore hC [(7, .int 0), (6, .int 1), (5, .int 1), (4, .int (pK T u)), (0, .ref a), (1, .int (nI u)), (2, .int side), (3, .ref ro)] dX7_rowFrom_84 (by decide) rfl ?_
            refine ax_iconst (v := 0) hC dX7_rowFrom_86 (by decide) ?_
            refine ax_istore hC [(8, .int 0), (7, .int 0), (6, .int 1), (5, .int 1), (4, .int (pK T u)), (0, .ref a), (1, .int (nI u)), (2, .int side), (3, .ref ro)] dX7_rowFrom_87 (by decide) rfl ?_
            refine ax_locals [0, 1, 2, 8, 6, 5] (L' := [(8, .int 0), (7, .int 0), (6, .int 1), (3, .ref ro), (1, .int (nI u)), (0, .ref a)]) rfl ?_
            exact LP (1 : Int32).toInt.toNat (1) 0 0 (Nat.zero_add _)
          · exact absurd (c17.symm.trans c20) (by decide)
      · exact absurd c18 (by decide)
    · refine ax_iload hC 0 dX7_rowFrom_17 rfl ?_
      refine ax_iconst (v := 3) hC dX7_rowFrom_19 (by decide) ?_
      refine ax_icmp_ne (tgt := 27) hC dX7_rowFrom_20 (by decide) (fun c21 => ?_) (fun c21 => ?_)
      · refine ax_iconst (v := 0) hC dX7_rowFrom_27 (by decide) ?_
        refine ax_goto (tgt := 48) hC dX7_rowFrom_28 (by decide) ?_
        refine ax_istore hC [(5, .int 0), (4, .int (pK T u)), (0, .ref a), (1, .int (nI u)), (2, .int side), (3, .ref ro)] dX7_rowFrom_48 (by decide) rfl ?_
        refine ax_iload hC 0 dX7_rowFrom_50 rfl ?_
        refine ax_if_ne (tgt := 57) hC dX7_rowFrom_52 (by decide) (fun c22 => ?_) (fun c22 => ?_)
        · exact absurd c22 (by decide)
        · refine ax_iconst (v := 0) hC dX7_rowFrom_55 (by decide) ?_
          refine ax_iret hC hr hlocks dX7_rowFrom_56 ?_
          exact ⟨trivial, rfl, rfl⟩
      · refine ax_iconst (v := 1) hC dX7_rowFrom_23 (by decide) ?_
        refine ax_goto (tgt := 48) hC dX7_rowFrom_24 (by decide) ?_
        refine ax_istore hC [(5, .int 1), (4, .int (pK T u)), (0, .ref a), (1, .int (nI u)), (2, .int side), (3, .ref ro)] dX7_rowFrom_48 (by decide) rfl ?_
        refine ax_iload hC 0 dX7_rowFrom_50 rfl ?_
        refine ax_if_ne (tgt := 57) hC dX7_rowFrom_52 (by decide) (fun c23 => ?_) (fun c23 => ?_)
        · refine ax_iload hC 1 dX7_rowFrom_57 rfl ?_
          refine ax_iconst (v := 3) hC dX7_rowFrom_59 (by decide) ?_
          refine ax_icmp_eq (tgt := 69) hC dX7_rowFrom_60 (by decide) (fun c24 => ?_) (fun c24 => ?_)
          · refine ax_aload_n hC 2 dX7_rowFrom_69 rfl rfl ?_
            refine ax_iload_n hC 3 dX7_rowFrom_70 rfl rfl ?_
            refine ax_callVp (st := []) hC [.int (nI u)] hP.1 rfl (c_X7_labelsOf l D z B lo _ h a _ T (nI u) hP hcap) (cwV 1 hC.1.2.2.2.2 gX7_rowFrom_X7_labelsOf rfl rfl rfl (by decide +kernel) ⟨Nat.le_of_ble_eq_true rfl, Nat.le_of_ble_eq_true rfl⟩) rfl rfl (Nat.le_of_ble_eq_true rfl) dX7_rowFrom_71 ⟨Nat.le_of_ble_eq_true rfl, Nat.le_of_ble_eq_true rfl⟩ (fun r25 er26 => ?_)
            subst er26
            refine ax_callSp (st := []) hC [.int (rd (pcap T) (pLb T) 0 (nI u))] (c_J6_bitCount_0f7a4 l D z B lo _ h (rd (pcap T) (pLb T) 0 (nI u))) (va_cwS 1 hC.1.2.2.2.2 gX7_rowFrom_J6_bitCount_0f7a4 rfl rfl rfl (by decide +kernel) ⟨Nat.le_of_ble_eq_true rfl, Nat.le_of_ble_eq_true rfl⟩) rfl rfl (Nat.le_of_ble_eq_true rfl) dX7_rowFrom_74 ⟨Nat.le_of_ble_eq_true rfl, Nat.le_of_ble_eq_true rfl⟩ (fun r27 er28 => ?_)
            subst er28
            refine ax_goto (tgt := 81) hC dX7_rowFrom_77 (by decide) ?_
            refine ax_istore hC [(6, .int (popc (rd (pcap T) (pLb T) 0 (nI u)))), (5, .int 1), (4, .int (pK T u)), (0, .ref a), (1, .int (nI u)), (2, .int side), (3, .ref ro)] dX7_rowFrom_81 (by decide) rfl ?_
            refine ax_iconst (v := 0) hC dX7_rowFrom_83 (by decide) ?_
            refine ax_istore hC [(7, .int 0), (6, .int (popc (rd (pcap T) (pLb T) 0 (nI u)))), (5, .int 1), (4, .int (pK T u)), (0, .ref a), (1, .int (nI u)), (2, .int side), (3, .ref ro)] dX7_rowFrom_84 (by decide) rfl ?_
            refine ax_iconst (v := 0) hC dX7_rowFrom_86 (by decide) ?_
            refine ax_istore hC [(8, .int 0), (7, .int 0), (6, .int (popc (rd (pcap T) (pLb T) 0 (nI u)))), (5, .int 1), (4, .int (pK T u)), (0, .ref a), (1, .int (nI u)), (2, .int side), (3, .ref ro)] dX7_rowFrom_87 (by decide) rfl ?_
            refine ax_locals [0, 1, 2, 8, 6, 5] (L' := [(8, .int 0), (7, .int 0), (6, .int (popc (rd (pcap T) (pLb T) 0 (nI u)))), (3, .ref ro), (1, .int (nI u)), (0, .ref a)]) rfl ?_
            exact LP (popc (rd (pcap T) (pLb T) 0 (nI u)) : Int32).toInt.toNat (popc (rd (pcap T) (pLb T) 0 (nI u))) 0 0 (Nat.zero_add _)
          · exact absurd c21 c24
        · exact absurd c23 (by decide)

abbrev rmX7_longestRow : Room := { frames := 2, cells := 0, slots := 0, locals := 69 }
set_option maxRecDepth 100000 in
set_option maxHeartbeats 4000000 in
theorem c_X7_longestRow (l : Launch) (D : va_G) (z : Nat → ClassId) (B : Heap) (lo hi : Nat) (h : Nat → Option va_E) (a ro : Nat) (side : Int32) (T : PT) (g : Nat → Int32) (hP : PrC z h a (nI (pcap T)) T) (hcap : pcap T ≤ 60) (hra : ro < a) (hro : h ro = some (.inl (z 1, 60, .inl g))) : Met l yX7_longestRow wsX7_longestRow rmX7_longestRow (KP D vwCl B lo hi h (ty6 z) [.ref a, .int side, .ref ro]) (KQi D vwCl B lo (ty6 z) (fun r hi' h' => hi' = hi ∧ (∀ q, q ≠ ro → h' q = h q) ∧ ∃ g', h' ro = some (.inl (z 1, 60, .inl g')))) 0 0 (fun q => lo ≤ q) := by
  refine ax_met (by decide) rfl (Nat.le_of_ble_eq_true rfl) (L0 := [(0, .ref a), (1, .int side), (2, .ref ro)]) rfl ?_
  intro p e s m args below meth c hC hr hlocks hnm hargs
  have iX7 : ∀ w ∈ u_ws RX7 TX7 9, w ∈ wsX7_longestRow := by decide +kernel
  have LPi : ∀ (n : Nat) (k : Nat) (hX : Nat → Option va_E) (g : Nat → Int32) (mo ch : Int32), n ≤ pcap T → (∀ (hX : Nat → Option va_E) (g : Nat → Int32) (mo ch : Int32), (∀ q, q ≠ ro → hX q = h q) → hX ro = some (.inl (z 1, 60, .inl g)) → Gx p l e rmX7_longestRow s m args below meth c D vwCl B lo 8 (MQ below (KQi D vwCl B lo (ty6 z) (fun r hi' h' => hi' = hi ∧ (∀ q, q ≠ ro → h' q = h q) ∧ ∃ g', h' ro = some (.inl (z 1, 60, .inl g')))) args s 0 0 (fun q => lo ≤ q)) hi hX 0 0 [(5, .int ch), (4, .int (nI k)), (3, .int mo), (2, .ref ro), (1, .int side), (0, .ref a)] 92 []) → (∀ q, q ≠ ro → hX q = h q) → hX ro = some (.inl (z 1, 60, .inl g)) → Gx p l e rmX7_longestRow s m args below meth c D vwCl B lo 8 (MQ below (KQi D vwCl B lo (ty6 z) (fun r hi' h' => hi' = hi ∧ (∀ q, q ≠ ro → h' q = h q) ∧ ∃ g', h' ro = some (.inl (z 1, 60, .inl g')))) args s 0 0 (fun q => lo ≤ q)) hi hX 0 0 [(6, .int (nI n - 1)), (5, .int ch), (4, .int (nI k)), (3, .int mo), (2, .ref ro), (1, .int side), (0, .ref a)] 33 [] := by
    intro n
    induction n with
    | zero =>
      intro k hX g mo ch hm hK hfr hgX
      have hPX : PrC z hX a (nI (pcap T)) T := hP.kept (fun q _ _ => hfr q (by omega))
      refine ax_iload hC 0 dX7_longestRow_33 rfl ?_
      refine ax_if_lt (tgt := 92) hC dX7_longestRow_35 (by decide) (fun c105001 => ?_) (fun c105001 => ?_)
      · refine ax_locals [1, 2, 3, 4, 5, 6] (L' := [(5, .int ch), (4, .int (nI k)), (3, .int mo), (2, .ref ro), (1, .int side), (0, .ref a)]) rfl ?_
        exact hK _ _ _ _ (fun q hq => (hfr q hq)) hgX
      · exact absurd (by decide) c105001
    | succ n ih =>
      intro k hX g mo ch hm hK hfr hgX
      have hPX : PrC z hX a (nI (pcap T)) T := hP.kept (fun q _ _ => hfr q (by omega))
      rw [nI_pred]
      refine ax_iload hC 0 dX7_longestRow_33 rfl ?_
      refine ax_if_lt (tgt := 92) hC dX7_longestRow_35 (by decide) (fun c106001 => ?_) (fun c106001 => ?_)
      · exact absurd c106001 (nI_pos (by omega))
      · refine ax_aload_n hC 6 dX7_longestRow_38 rfl rfl ?_
        refine ax_iload hC 0 dX7_longestRow_39 rfl ?_
        refine ax_callVp (st := []) hC [.int (nI n)] hPX.1 rfl (c_X7_isStateOutside l D z B lo _ hX a _ T (nI n) hPX hcap) (cwV 1 hC.1.2.2.2.2 gX7_longestRow_X7_isStateOutside rfl rfl rfl (by decide +kernel) ⟨Nat.le_of_ble_eq_true rfl, Nat.le_of_ble_eq_true rfl⟩) rfl rfl (Nat.le_of_ble_eq_true rfl) dX7_longestRow_41 ⟨Nat.le_of_ble_eq_true rfl, Nat.le_of_ble_eq_true rfl⟩ (fun r106002 er106003 => ?_)
        rcases er106003 with er106003 | er106003
        · subst er106003
          refine ax_if_eq (tgt := 58) hC dX7_longestRow_44 (by decide) (fun c106004 => ?_) (fun c106004 => ?_)
          · refine ax_iconst (v := 0) hC dX7_longestRow_58 (by decide) ?_
            refine ax_istore hC [(7, .int 0), (6, .int (nI n)), (5, .int ch), (4, .int (nI k)), (3, .int mo), (2, .ref ro), (1, .int side), (0, .ref a)] dX7_longestRow_59 (by decide) rfl ?_
            refine ax_iload hC 0 dX7_longestRow_61 rfl ?_
            refine ax_aload_n hC 5 dX7_longestRow_63 rfl rfl ?_
            refine ax_iload hC 1 dX7_longestRow_64 rfl ?_
            have b106005 : vp_in (nI n) 60 := vp_in_nI (by omega) (by omega)
            refine ax_iald hC hgX 1 rfl b106005 dX7_longestRow_66 ?_
            refine ax_eqi (y := g n) (by rw [nI_clamp (by omega)] <;> rfl) ?_
            refine ax_icmp_le (tgt := 73) hC dX7_longestRow_67 (by decide) (fun c106006 => ?_) (fun c106006 => ?_)
            · refine ax_aload_n hC 5 dX7_longestRow_73 rfl rfl ?_
              refine ax_iload hC 1 dX7_longestRow_74 rfl ?_
              refine ax_iload hC 0 dX7_longestRow_76 rfl ?_
              have b106007 : vp_in (nI n) 60 := vp_in_nI (by omega) (by omega)
              refine ax_iast hC hgX 1 rfl b106007 dX7_longestRow_78 (fun h106008 e106009 f106010 => ?_)
              rw [nI_clamp (by omega)] at e106009
              have hp_106011 : PrC z h106008 a _ T := hPX.kept (fun q _ _ => f106010 q (by omega))
              refine ax_iload_n hC 4 dX7_longestRow_79 rfl rfl ?_
              refine ax_iload hC 0 dX7_longestRow_80 rfl ?_
              refine ax_mmax hC (by decide +kernel) (by decide +kernel) (by decide +kernel) (by decide +kernel) (Nat.le_of_ble_eq_true rfl) (Nat.le_of_ble_eq_true rfl) (Nat.le_of_ble_eq_true rfl) (Nat.le_of_ble_eq_true rfl) dX7_longestRow_82 ?_
              refine ax_istore_n hC [(3, .int (if mo < 0 then 0 else mo)), (7, .int 0), (6, .int (nI n)), (5, .int ch), (4, .int (nI k)), (2, .ref ro), (1, .int side), (0, .ref a)] dX7_longestRow_85 rfl (by decide) rfl ?_
              refine ax_iinc (v := (nI n) + (-1)) hC 2 [(6, .int ((nI n) + (-1))), (3, .int (if mo < 0 then 0 else mo)), (7, .int 0), (5, .int ch), (4, .int (nI k)), (2, .ref ro), (1, .int side), (0, .ref a)] dX7_longestRow_86 rfl rfl (by decide) rfl ?_
              refine ax_goto (tgt := 33) hC dX7_longestRow_89 (by decide) ?_
              refine ax_locals [0, 3, 4, 1, 5, 6, 7] (L' := [(6, .int ((nI n) + (-1))), (5, .int ch), (4, .int (nI k)), (3, .int (if mo < 0 then 0 else mo)), (2, .ref ro), (1, .int side), (0, .ref a)]) rfl ?_
              rw [show nI n + (-1) = nI n - 1 from (Int32.sub_eq_add_neg _ _).symm]
              exact ih k h106008 _ _ _ (by omega) hK (fun q hq => ((f106010 q (by omega)).trans (hfr q hq))) e106009
            · refine ax_iconst (v := 1) hC dX7_longestRow_70 (by decide) ?_
              refine ax_istore hC [(5, .int 1), (7, .int 0), (6, .int (nI n)), (4, .int (nI k)), (3, .int mo), (2, .ref ro), (1, .int side), (0, .ref a)] dX7_longestRow_71 (by decide) rfl ?_
              refine ax_aload_n hC 5 dX7_longestRow_73 rfl rfl ?_
              refine ax_iload hC 2 dX7_longestRow_74 rfl ?_
              refine ax_iload hC 1 dX7_longestRow_76 rfl ?_
              have b106013 : vp_in (nI n) 60 := vp_in_nI (by omega) (by omega)
              refine ax_iast hC hgX 1 rfl b106013 dX7_longestRow_78 (fun h106014 e106015 f106016 => ?_)
              rw [nI_clamp (by omega)] at e106015
              have hp_106017 : PrC z h106014 a _ T := hPX.kept (fun q _ _ => f106016 q (by omega))
              refine ax_iload_n hC 4 dX7_longestRow_79 rfl rfl ?_
              refine ax_iload hC 1 dX7_longestRow_80 rfl ?_
              refine ax_mmax hC (by decide +kernel) (by decide +kernel) (by decide +kernel) (by decide +kernel) (Nat.le_of_ble_eq_true rfl) (Nat.le_of_ble_eq_true rfl) (Nat.le_of_ble_eq_true rfl) (Nat.le_of_ble_eq_true rfl) dX7_longestRow_82 ?_
              refine ax_istore_n hC [(3, .int (if mo < 0 then 0 else mo)), (5, .int 1), (7, .int 0), (6, .int (nI n)), (4, .int (nI k)), (2, .ref ro), (1, .int side), (0, .ref a)] dX7_longestRow_85 rfl (by decide) rfl ?_
              refine ax_iinc (v := (nI n) + (-1)) hC 3 [(6, .int ((nI n) + (-1))), (3, .int (if mo < 0 then 0 else mo)), (5, .int 1), (7, .int 0), (4, .int (nI k)), (2, .ref ro), (1, .int side), (0, .ref a)] dX7_longestRow_86 rfl rfl (by decide) rfl ?_
              refine ax_goto (tgt := 33) hC dX7_longestRow_89 (by decide) ?_
              refine ax_locals [0, 2, 4, 1, 5, 6, 7] (L' := [(6, .int ((nI n) + (-1))), (5, .int 1), (4, .int (nI k)), (3, .int (if mo < 0 then 0 else mo)), (2, .ref ro), (1, .int side), (0, .ref a)]) rfl ?_
              rw [show nI n + (-1) = nI n - 1 from (Int32.sub_eq_add_neg _ _).symm]
              exact ih k h106014 _ _ _ (by omega) hK (fun q hq => ((f106016 q (by omega)).trans (hfr q hq))) e106015
          · exact absurd c106004 (by decide)
        · subst er106003
          refine ax_if_eq (tgt := 58) hC dX7_longestRow_44 (by decide) (fun c106019 => ?_) (fun c106019 => ?_)
          · exact absurd c106019 (by decide)
          · refine ax_aload_n hC 6 dX7_longestRow_47 rfl rfl ?_
            refine ax_iload hC 0 dX7_longestRow_48 rfl ?_
            refine ax_iload_n hC 5 dX7_longestRow_50 rfl rfl ?_
            refine ax_aload_n hC 4 dX7_longestRow_51 rfl rfl ?_
            refine ax_callVp (st := []) hC [.int (nI n), .int side, .ref ro] hPX.1 rfl (c_X7_rowFrom l D z B lo _ hX a ro n _ side T g hPX hcap (by omega) hgX) (cwV 3 hC.1.2.2.2.2 gX7_longestRow_X7_rowFrom rfl rfl rfl (by decide +kernel) ⟨Nat.le_of_ble_eq_true rfl, Nat.le_of_ble_eq_true rfl⟩) rfl rfl (Nat.le_of_ble_eq_true rfl) dX7_longestRow_52 ⟨Nat.le_of_ble_eq_true rfl, Nat.le_of_ble_eq_true rfl⟩ (fun r106020 er106021 => ?_)
            refine ax_goto (tgt := 59) hC dX7_longestRow_55 (by decide) ?_
            refine ax_istore hC [(7, .int r106020), (6, .int (nI n)), (5, .int ch), (4, .int (nI k)), (3, .int mo), (2, .ref ro), (1, .int side), (0, .ref a)] dX7_longestRow_59 (by decide) rfl ?_
            refine ax_iload hC 0 dX7_longestRow_61 rfl ?_
            refine ax_aload_n hC 5 dX7_longestRow_63 rfl rfl ?_
            refine ax_iload hC 1 dX7_longestRow_64 rfl ?_
            have b106022 : vp_in (nI n) 60 := vp_in_nI (by omega) (by omega)
            refine ax_iald hC hgX 1 rfl b106022 dX7_longestRow_66 ?_
            refine ax_eqi (y := g n) (by rw [nI_clamp (by omega)] <;> rfl) ?_
            refine ax_icmp_le (tgt := 73) hC dX7_longestRow_67 (by decide) (fun c106023 => ?_) (fun c106023 => ?_)
            · refine ax_aload_n hC 5 dX7_longestRow_73 rfl rfl ?_
              refine ax_iload hC 1 dX7_longestRow_74 rfl ?_
              refine ax_iload hC 0 dX7_longestRow_76 rfl ?_
              have b106024 : vp_in (nI n) 60 := vp_in_nI (by omega) (by omega)
              refine ax_iast hC hgX 1 rfl b106024 dX7_longestRow_78 (fun h106025 e106026 f106027 => ?_)
              rw [nI_clamp (by omega)] at e106026
              have hp_106028 : PrC z h106025 a _ T := hPX.kept (fun q _ _ => f106027 q (by omega))
              refine ax_iload_n hC 4 dX7_longestRow_79 rfl rfl ?_
              refine ax_iload hC 0 dX7_longestRow_80 rfl ?_
              refine ax_mmax hC (by decide +kernel) (by decide +kernel) (by decide +kernel) (by decide +kernel) (Nat.le_of_ble_eq_true rfl) (Nat.le_of_ble_eq_true rfl) (Nat.le_of_ble_eq_true rfl) (Nat.le_of_ble_eq_true rfl) dX7_longestRow_82 ?_
              refine ax_istore_n hC [(3, .int (if mo < r106020 then r106020 else mo)), (7, .int r106020), (6, .int (nI n)), (5, .int ch), (4, .int (nI k)), (2, .ref ro), (1, .int side), (0, .ref a)] dX7_longestRow_85 rfl (by decide) rfl ?_
              refine ax_iinc (v := (nI n) + (-1)) hC 2 [(6, .int ((nI n) + (-1))), (3, .int (if mo < r106020 then r106020 else mo)), (7, .int r106020), (5, .int ch), (4, .int (nI k)), (2, .ref ro), (1, .int side), (0, .ref a)] dX7_longestRow_86 rfl rfl (by decide) rfl ?_
              refine ax_goto (tgt := 33) hC dX7_longestRow_89 (by decide) ?_
              refine ax_locals [0, 3, 4, 1, 5, 6, 7] (L' := [(6, .int ((nI n) + (-1))), (5, .int ch), (4, .int (nI k)), (3, .int (if mo < r106020 then r106020 else mo)), (2, .ref ro), (1, .int side), (0, .ref a)]) rfl ?_
              rw [show nI n + (-1) = nI n - 1 from (Int32.sub_eq_add_neg _ _).symm]
              exact ih k h106025 _ _ _ (by omega) hK (fun q hq => ((f106027 q (by omega)).trans (hfr q hq))) e106026
            · refine ax_iconst (v := 1) hC dX7_longestRow_70 (by decide) ?_
              refine ax_istore hC [(5, .int 1), (7, .int r106020), (6, .int (nI n)), (4, .int (nI k)), (3, .int mo), (2, .ref ro), (1, .int side), (0, .ref a)] dX7_longestRow_71 (by decide) rfl ?_
              refine ax_aload_n hC 5 dX7_longestRow_73 rfl rfl ?_
              refine ax_iload hC 2 dX7_longestRow_74 rfl ?_
              refine ax_iload hC 1 dX7_longestRow_76 rfl ?_
              have b106030 : vp_in (nI n) 60 := vp_in_nI (by omega) (by omega)
              refine ax_iast hC hgX 1 rfl b106030 dX7_longestRow_78 (fun h106031 e106032 f106033 => ?_)
              rw [nI_clamp (by omega)] at e106032
              have hp_106034 : PrC z h106031 a _ T := hPX.kept (fun q _ _ => f106033 q (by omega))
              refine ax_iload_n hC 4 dX7_longestRow_79 rfl rfl ?_
              refine ax_iload hC 1 dX7_longestRow_80 rfl ?_
              refine ax_mmax hC (by decide +kernel) (by decide +kernel) (by decide +kernel) (by decide +kernel) (Nat.le_of_ble_eq_true rfl) (Nat.le_of_ble_eq_true rfl) (Nat.le_of_ble_eq_true rfl) (Nat.le_of_ble_eq_true rfl) dX7_longestRow_82 ?_
              refine ax_istore_n hC [(3, .int (if mo < r106020 then r106020 else mo)), (5, .int 1), (7, .int r106020), (6, .int (nI n)), (4, .int (nI k)), (2, .ref ro), (1, .int side), (0, .ref a)] dX7_longestRow_85 rfl (by decide) rfl ?_
              refine ax_iinc (v := (nI n) + (-1)) hC 3 [(6, .int ((nI n) + (-1))), (3, .int (if mo < r106020 then r106020 else mo)), (5, .int 1), (7, .int r106020), (4, .int (nI k)), (2, .ref ro), (1, .int side), (0, .ref a)] dX7_longestRow_86 rfl rfl (by decide) rfl ?_
              refine ax_goto (tgt := 33) hC dX7_longestRow_89 (by decide) ?_
              refine ax_locals [0, 2, 4, 1, 5, 6, 7] (L' := [(6, .int ((nI n) + (-1))), (5, .int 1), (4, .int (nI k)), (3, .int (if mo < r106020 then r106020 else mo)), (2, .ref ro), (1, .int side), (0, .ref a)]) rfl ?_
              rw [show nI n + (-1) = nI n - 1 from (Int32.sub_eq_add_neg _ _).symm]
              exact ih k h106031 _ _ _ (by omega) hK (fun q hq => ((f106033 q (by omega)).trans (hfr q hq))) e106032
  have LPo : ∀ (n : Nat) (k : Nat) (hX : Nat → Option va_E) (g : Nat → Int32) (mo : Int32), k + n = 61 → (∀ q, q ≠ ro → hX q = h q) → hX ro = some (.inl (z 1, 60, .inl g)) → Gx p l e rmX7_longestRow s m args below meth c D vwCl B lo 8 (MQ below (KQi D vwCl B lo (ty6 z) (fun r hi' h' => hi' = hi ∧ (∀ q, q ≠ ro → h' q = h q) ∧ ∃ g', h' ro = some (.inl (z 1, 60, .inl g')))) args s 0 0 (fun q => lo ≤ q)) hi hX 0 0 [(4, .int (nI k)), (3, .int mo), (2, .ref ro), (1, .int side), (0, .ref a)] 10 [] := by
    intro n
    induction n with
    | zero =>
      intro k hX g mo hkn hfr hgX
      have hPX : PrC z hX a (nI (pcap T)) T := hP.kept (fun q _ _ => hfr q (by omega))
      refine ax_iload hC 0 dX7_longestRow_10 rfl ?_
      refine ax_bipush (v := 60) hC dX7_longestRow_12 (by decide) ?_
      refine ax_icmp_gt (tgt := 116) hC dX7_longestRow_14 (by decide) (fun c107001 => ?_) (fun c107001 => ?_)
      · refine ax_bipush (v := (-2)) hC dX7_longestRow_116 (by decide) ?_
        refine ax_iret hC hr hlocks dX7_longestRow_118 ?_
        exact ⟨rfl, (fun q hq => (hfr q hq)), _, hgX⟩
      · exact absurd (by rw [i32_lt, nI_toInt (by omega)]; have : (60 : Int32).toInt = 60 := (by decide); omega) c107001
    | succ n ih =>
      intro k hX g mo hkn hfr hgX
      have hPX : PrC z hX a (nI (pcap T)) T := hP.kept (fun q _ _ => hfr q (by omega))
      refine ax_iload hC 0 dX7_longestRow_10 rfl ?_
      refine ax_bipush (v := 60) hC dX7_longestRow_12 (by decide) ?_
      refine ax_icmp_gt (tgt := 116) hC dX7_longestRow_14 (by decide) (fun c108001 => ?_) (fun c108001 => ?_)
      · exact absurd c108001 (by rw [i32_lt, nI_toInt (by omega)]; have : (60 : Int32).toInt = 60 := (by decide); omega)
      · refine ax_iconst (v := 0) hC dX7_longestRow_17 (by decide) ?_
        refine ax_istore hC [(5, .int 0), (4, .int (nI k)), (3, .int mo), (2, .ref ro), (1, .int side), (0, .ref a)] dX7_longestRow_18 (by decide) rfl ?_
        refine ax_aload_n hC 5 dX7_longestRow_20 rfl rfl ?_
        refine ax_getf (v := .int (nI (pcap T))) hC hPX.1 iX7 rfl 0 (by decide) (by decide +kernel) rfl rfl dX7_longestRow_21 ?_
        refine ax_aload_n hC 3 dX7_longestRow_24 rfl rfl ?_
        refine ax_alen (v := 60) hC hgX 1 rfl rfl dX7_longestRow_25 ?_
        refine ax_mmin hC (by decide +kernel) (by decide +kernel) (by decide +kernel) (by decide +kernel) (Nat.le_of_ble_eq_true rfl) (Nat.le_of_ble_eq_true rfl) (Nat.le_of_ble_eq_true rfl) (Nat.le_of_ble_eq_true rfl) dX7_longestRow_26 ?_
        refine ax_eqi (y := nI (pcap T)) (if_neg (nI_nlt (a := 60) (b := pcap T) (by omega) (by decide))) ?_
        refine ax_iconst (v := 1) hC dX7_longestRow_29 (by decide) ?_
        refine ax_isub hC dX7_longestRow_30 ?_
        refine ax_istore hC [(6, .int ((nI (pcap T)) - 1)), (5, .int 0), (4, .int (nI k)), (3, .int mo), (2, .ref ro), (1, .int side), (0, .ref a)] dX7_longestRow_31 (by decide) rfl ?_
        refine ax_locals [0, 1, 2, 3, 4, 5, 6] (L' := [(6, .int ((nI (pcap T)) - 1)), (5, .int 0), (4, .int (nI k)), (3, .int mo), (2, .ref ro), (1, .int side), (0, .ref a)]) rfl ?_
        refine LPi (pcap T) k hX _ _ _ (Nat.le_refl _) (fun hY g mo ch hfrY hgY => ?_) (fun q hq => (hfr q hq)) hgX
        have hPY : PrC z hY a (nI (pcap T)) T := hP.kept (fun q _ _ => hfrY q (by omega))
        refine ax_iload_n hC 2 dX7_longestRow_92 rfl rfl ?_
        refine ax_aload_n hC 5 dX7_longestRow_93 rfl rfl ?_
        refine ax_getf (v := .int (nI (pcap T))) hC hPY.1 iX7 rfl 0 (by decide) (by decide +kernel) rfl rfl dX7_longestRow_94 ?_
        refine ax_icmp_le (tgt := 103) hC dX7_longestRow_97 (by decide) (fun c108002 => ?_) (fun c108002 => ?_)
        · refine ax_iload hC 0 dX7_longestRow_103 rfl ?_
          refine ax_if_ne (tgt := 110) hC dX7_longestRow_105 (by decide) (fun c108003 => ?_) (fun c108003 => ?_)
          · refine ax_iinc (v := nI (k + 1)) hC 1 [(4, .int (nI (k + 1))), (5, .int ch), (3, .int mo), (2, .ref ro), (1, .int side), (0, .ref a)] dX7_longestRow_110 rfl (nI_1 _) (by decide) rfl ?_
            refine ax_goto (tgt := 10) hC dX7_longestRow_113 (by decide) ?_
            refine ax_locals [0, 2, 3, 4, 5] (L' := [(4, .int (nI (k + 1))), (3, .int mo), (2, .ref ro), (1, .int side), (0, .ref a)]) rfl ?_
            exact ih (k + 1) hY _ _ (by omega) (fun q hq => hfrY q hq) hgY
          · refine ax_iload_n hC 2 dX7_longestRow_108 rfl rfl ?_
            refine ax_iret hC hr hlocks dX7_longestRow_109 ?_
            exact ⟨rfl, (fun q hq => hfrY q hq), _, hgY⟩
        · refine ax_bipush (v := (-2)) hC dX7_longestRow_100 (by decide) ?_
          refine ax_iret hC hr hlocks dX7_longestRow_102 ?_
          exact ⟨rfl, (fun q hq => hfrY q hq), _, hgY⟩
  refine ax_aload_n hC 2 dX7_longestRow_0 rfl rfl ?_
  refine ax_iconst (v := 0) hC dX7_longestRow_1 (by decide) ?_
  refine ax_callSv (st := []) hC [.ref ro, .int 0] (c_J7_fill_53178 l D z B lo _ h ro 60 g 0 hro (by decide)) (va_cwS 2 hC.1.2.2.2.2 gX7_longestRow_J7_fill_53178 rfl rfl rfl (by decide +kernel) ⟨Nat.le_of_ble_eq_true rfl, Nat.le_of_ble_eq_true rfl⟩) rfl rfl (Nat.le_of_ble_eq_true rfl) dX7_longestRow_2 ⟨Nat.le_of_ble_eq_true rfl, Nat.le_of_ble_eq_true rfl⟩ (fun hi1 h2 hp3 => ?_)
  obtain ⟨ei4, fr5, fl6, ef7, zf8⟩ := hp3
  replace ei4 := ei4.symm
  subst ei4
  have hp_9 : PrC z h2 a _ T := hP.kept (fun q _ _ => fr5 q (by omega))
  refine ax_iconst (v := 0) hC dX7_longestRow_5 (by decide) ?_
  refine ax_istore_n hC [(3, .int 0), (0, .ref a), (1, .int side), (2, .ref ro)] dX7_longestRow_6 rfl (by decide) rfl ?_
  refine ax_iconst (v := 0) hC dX7_longestRow_7 (by decide) ?_
  refine ax_istore hC [(4, .int 0), (3, .int 0), (0, .ref a), (1, .int side), (2, .ref ro)] dX7_longestRow_8 (by decide) rfl ?_
  refine ax_locals [0, 1, 4, 3, 2] (L' := [(4, .int 0), (3, .int 0), (2, .ref ro), (1, .int side), (0, .ref a)]) rfl ?_
  exact LPo 61 0 h2 _ _ (by omega) (fun q hq => (fr5 q (by omega))) ef7
