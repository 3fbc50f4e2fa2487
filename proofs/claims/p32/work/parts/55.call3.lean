abbrev rmX11_fits : Room := { frames := 3, cells := 0, slots := 0, locals := 89 }
set_option maxRecDepth 100000 in
set_option maxHeartbeats 4000000 in
theorem c_X11_fits (l : Launch) (D : va_G) (z : Nat → ClassId) (B : Heap) (lo hi : Nat) (h : Nat → Option va_E) (o : Nat) (on kp : Int32) (j k aF aG : Nat) (ndF ndG : Int32) (TF TG : PT) (pa : Nat → Option Nat) (hO : ObS h o on kp) (hPs : PsS z h o pa) (hj : j < 16) (hk : k < 16) (hpj : pa j = some aF) (hpk : pa k = some aG) (hF : PrC z h aF ndF TF) (hG : PrC z h aG ndG TG) (hwF : wfP TF) (hwG : wfP TG) (hbF : o + 147 ≤ aF) (hbG : o + 147 ≤ aG) (hS : CmpS z h (o + 23)) : Met l yX11_fits wsX11_fits rmX11_fits (KP D vwCl B lo hi h (ty6 z) [.ref o, .int (nI j), .int (nI k)]) (KQi D vwCl B lo (ty6 z) (fun r hi' h' => hi' = hi ∧ (∀ q, (q < o + 23 ∨ o + 26 ≤ q) → h' q = h q) ∧ CmpS z h' (o + 23) ∧ ((r = 1 ∧ Fit TF TG (sN TF 0) (sN TG 0)) ∨ (r = 0 ∧ ¬ Fit TF TG (sN TF 0) (sN TG 0))))) 0 0 (fun q => lo ≤ q) := by
  refine ax_met (by decide) rfl (Nat.le_of_ble_eq_true rfl) (L0 := [(0, .ref o), (1, .int (nI j)), (2, .int (nI k))]) rfl ?_
  intro p e s m args below meth c hC hr hlocks hnm hargs
  have iX11 : ∀ w ∈ u_ws RX11 TX11 13, w ∈ wsX11_fits := by decide +kernel
  obtain ⟨_, _, _, hSo, -⟩ := id hS
  refine ax_aload_n hC 0 dX11_fits_0 rfl rfl ?_
  refine ax_iload_n hC 1 dX11_fits_1 rfl rfl ?_
  refine ax_callVq (st := []) hC [.int (nI j)] hO rfl (c_X11_protocolAt l D z B lo _ h o on kp j pa hO hPs (by omega)) (cwV 1 hC.1.2.2.2.2 gX11_fits_X11_protocolAt rfl rfl rfl (by decide +kernel) ⟨Nat.le_of_ble_eq_true rfl, Nat.le_of_ble_eq_true rfl⟩) rfl rfl (Nat.le_of_ble_eq_true rfl) dX11_fits_2 ⟨Nat.le_of_ble_eq_true rfl, Nat.le_of_ble_eq_true rfl⟩ (fun r1 hi2 h3 hp4 => ?_)
  obtain ⟨er5, ei6, eh7⟩ := hp4
  subst er5
  replace ei6 := ei6.symm
  subst ei6
  replace eh7 := eh7.symm
  subst eh7
  refine ax_eqq (y := some aF) (hpj) ?_
  refine ax_astore_n hC [(3, .ref aF), (0, .ref o), (1, .int (nI j)), (2, .int (nI k))] dX11_fits_5 rfl (by decide) rfl ?_
  refine ax_aload_n hC 1 dX11_fits_6 rfl rfl ?_
  refine ax_iload_n hC 3 dX11_fits_7 rfl rfl ?_
  refine ax_callVq (st := []) hC [.int (nI k)] hO rfl (c_X11_protocolAt l D z B lo _ h o on kp k pa hO hPs (by omega)) (cwV 1 hC.1.2.2.2.2 gX11_fits_X11_protocolAt rfl rfl rfl (by decide +kernel) ⟨Nat.le_of_ble_eq_true rfl, Nat.le_of_ble_eq_true rfl⟩) rfl rfl (Nat.le_of_ble_eq_true rfl) dX11_fits_8 ⟨Nat.le_of_ble_eq_true rfl, Nat.le_of_ble_eq_true rfl⟩ (fun r8 hi9 h10 hp11 => ?_)
  obtain ⟨er12, ei13, eh14⟩ := hp11
  subst er12
  replace ei13 := ei13.symm
  subst ei13
  replace eh14 := eh14.symm
  subst eh14
  refine ax_eqq (y := some aG) (hpk) ?_
  refine ax_astore hC [(4, .ref aG), (3, .ref aF), (0, .ref o), (1, .int (nI j)), (2, .int (nI k))] dX11_fits_11 (by decide) rfl ?_
  refine ax_aload_n hC 1 dX11_fits_13 rfl rfl ?_
  refine ax_ifnull hC dX11_fits_14 ?_
  refine ax_aload hC 0 dX11_fits_17 rfl ?_
  refine ax_ifnonnull (tgt := 24) hC dX11_fits_19 (by decide) ?_
  refine ax_aload_n hC 2 dX11_fits_24 rfl rfl ?_
  refine ax_getf (v := .ref (o + 23)) hC hO iX11 rfl 6 (by decide) (by decide +kernel) rfl rfl dX11_fits_25 ?_
  refine ax_aload_n hC 1 dX11_fits_28 rfl rfl ?_
  refine ax_aload_n hC 1 dX11_fits_29 rfl rfl ?_
  refine ax_callVp (st := [.ref aF, .ref (o + 23)]) hC [] hF.1 rfl (c_X7_beginning l D z B lo _ h aF _ TF hF hwF.1) (cwV 0 hC.1.2.2.2.2 gX11_fits_X7_beginning rfl rfl rfl (by decide +kernel) ⟨Nat.le_of_ble_eq_true rfl, Nat.le_of_ble_eq_true rfl⟩) rfl rfl (Nat.le_of_ble_eq_true rfl) dX11_fits_30 ⟨Nat.le_of_ble_eq_true rfl, Nat.le_of_ble_eq_true rfl⟩ (fun r15 er16 => ?_)
  subst er16
  refine ax_eqi (y := nI (sN TF 0)) ((sN_eq hwF 0).1) ?_
  refine ax_aload hC 0 dX11_fits_33 rfl ?_
  refine ax_aload hC 0 dX11_fits_35 rfl ?_
  refine ax_callVp (st := [.ref aG, .int (nI (sN TF 0)), .ref aF, .ref (o + 23)]) hC [] hG.1 rfl (c_X7_beginning l D z B lo _ h aG _ TG hG hwG.1) (cwV 0 hC.1.2.2.2.2 gX11_fits_X7_beginning rfl rfl rfl (by decide +kernel) ⟨Nat.le_of_ble_eq_true rfl, Nat.le_of_ble_eq_true rfl⟩) rfl rfl (Nat.le_of_ble_eq_true rfl) dX11_fits_37 ⟨Nat.le_of_ble_eq_true rfl, Nat.le_of_ble_eq_true rfl⟩ (fun r17 er18 => ?_)
  subst er18
  refine ax_eqi (y := nI (sN TG 0)) ((sN_eq hwG 0).1) ?_
  refine ax_iconst (v := 0) hC dX11_fits_40 (by decide) ?_
  refine ax_callVi (st := []) hC [.ref aF, .int (nI (sN TF 0)), .ref aG, .int (nI (sN TG 0)), .int 0] hSo rfl (c_X1_holds l D z B lo _ h (o + 23) aF aG (sN TF 0) (sN TG 0) _ _ TF TG hS hF hG hwF hwG (sN_eq hwF 0).2 (sN_eq hwG 0).2 (by omega) (by omega)) (cwV 5 hC.1.2.2.2.2 gX11_fits_X1_holds rfl rfl rfl (by decide +kernel) ⟨Nat.le_of_ble_eq_true rfl, Nat.le_of_ble_eq_true rfl⟩) rfl rfl (Nat.le_of_ble_eq_true rfl) dX11_fits_41 ⟨Nat.le_of_ble_eq_true rfl, Nat.le_of_ble_eq_true rfl⟩ (fun r19 hi20 h21 hp22 => ?_)
  obtain ⟨ei23, fr24, hS25, hr26⟩ := hp22
  replace ei23 := ei23.symm
  subst ei23
  rcases hr26 with ⟨hr26, hfit⟩ | ⟨hr26, hfit⟩
  · subst hr26
    refine ax_if_eq (tgt := 51) hC dX11_fits_44 (by decide) (fun c27 => ?_) (fun c27 => ?_)
    · exact absurd c27 (by decide)
    · refine ax_iconst (v := 1) hC dX11_fits_47 (by decide) ?_
      refine ax_goto (tgt := 52) hC dX11_fits_48 (by decide) ?_
      refine ax_iret hC hr hlocks dX11_fits_52 ?_
      exact ⟨rfl, fun q hq => (fr24 q (by omega)), hS25, Or.inl ⟨rfl, hfit⟩⟩
  · subst hr26
    refine ax_if_eq (tgt := 51) hC dX11_fits_44 (by decide) (fun c28 => ?_) (fun c28 => ?_)
    · refine ax_iconst (v := 0) hC dX11_fits_51 (by decide) ?_
      refine ax_iret hC hr hlocks dX11_fits_52 ?_
      exact ⟨rfl, fun q hq => (fr24 q (by omega)), hS25, Or.inr ⟨rfl, hfit⟩⟩
    · exact absurd c28 (by decide)

theorem nI_neL {n : Nat} (h : n < 2 ^ 31) : ¬ nI n = -2 := by
  intro q
  have := congrArg Int32.toInt q
  rw [nI_toInt h, show (-2 : Int32).toInt = -2 by decide] at this
  omega
abbrev rmX11_witness : Room := { frames := 4, cells := 0, slots := 0, locals := 118 }
set_option maxRecDepth 100000 in
set_option maxHeartbeats 4000000 in
theorem c_X11_witness (l : Launch) (D : va_G) (z : Nat → ClassId) (B : Heap) (lo hi : Nat) (h : Nat → Option va_E) (o : Nat) (on kp : Int32) (j k aF aG : Nat) (ndF ndG : Int32) (TF TG : PT) (pa : Nat → Option Nat) (hO : ObS h o on kp) (hPs : PsS z h o pa) (hj : j < 16) (hk : k < 16) (hpj : pa j = some aF) (hpk : pa k = some aG) (hF : PrC z h aF ndF TF) (hG : PrC z h aG ndG TG) (hwF : wfP TF) (hwG : wfP TG) (hbF : o + 147 ≤ aF) (hbG : o + 147 ≤ aG) (hS : CmpS z h (o + 23)) (hH : HinS z h (o + 26) (o + 23)) : Met l yX11_witness wsX11_witness rmX11_witness (KP D vwCl B lo hi h (ty6 z) [.ref o, .int (nI j), .int (nI k), .int (-1)]) (KQi D vwCl B lo (ty6 z) (fun r hi' h' => hi' = hi ∧ (∀ q, (q < o + 23 ∨ o + 32 ≤ q) → h' q = h q) ∧ CmpS z h' (o + 23) ∧ HinS z h' (o + 26) (o + 23) ∧ ((r = -2 ∧ Fit TF TG (sN TF 0) (sN TG 0)) ∨ (¬ r = -2 ∧ ¬ Fit TF TG (sN TF 0) (sN TG 0))))) 0 0 (fun q => lo ≤ q) := by
  refine ax_met (by decide) rfl (Nat.le_of_ble_eq_true rfl) (L0 := [(0, .ref o), (1, .int (nI j)), (2, .int (nI k)), (3, .int (-1))]) rfl ?_
  intro p e s m args below meth c hC hr hlocks hnm hargs
  have iX11 : ∀ w ∈ u_ws RX11 TX11 13, w ∈ wsX11_witness := by decide +kernel
  obtain ⟨_, _, _, _, _, _, _, hHo, -⟩ := id hH
  refine ax_aload_n hC 0 dX11_witness_0 rfl rfl ?_
  refine ax_iload_n hC 1 dX11_witness_1 rfl rfl ?_
  refine ax_callVq (st := []) hC [.int (nI j)] hO rfl (c_X11_protocolAt l D z B lo _ h o on kp j pa hO hPs (by omega)) (cwV 1 hC.1.2.2.2.2 gX11_witness_X11_protocolAt rfl rfl rfl (by decide +kernel) ⟨Nat.le_of_ble_eq_true rfl, Nat.le_of_ble_eq_true rfl⟩) rfl rfl (Nat.le_of_ble_eq_true rfl) dX11_witness_2 ⟨Nat.le_of_ble_eq_true rfl, Nat.le_of_ble_eq_true rfl⟩ (fun r1 hi2 h3 hp4 => ?_)
  obtain ⟨er5, ei6, eh7⟩ := hp4
  subst er5
  replace ei6 := ei6.symm
  subst ei6
  replace eh7 := eh7.symm
  subst eh7
  refine ax_eqq (y := some aF) (hpj) ?_
  refine ax_astore hC [(4, .ref aF), (0, .ref o), (1, .int (nI j)), (2, .int (nI k)), (3, .int (-1))] dX11_witness_5 (by decide) rfl ?_
  refine ax_aload_n hC 1 dX11_witness_7 rfl rfl ?_
  refine ax_iload_n hC 3 dX11_witness_8 rfl rfl ?_
  refine ax_callVq (st := []) hC [.int (nI k)] hO rfl (c_X11_protocolAt l D z B lo _ h o on kp k pa hO hPs (by omega)) (cwV 1 hC.1.2.2.2.2 gX11_witness_X11_protocolAt rfl rfl rfl (by decide +kernel) ⟨Nat.le_of_ble_eq_true rfl, Nat.le_of_ble_eq_true rfl⟩) rfl rfl (Nat.le_of_ble_eq_true rfl) dX11_witness_9 ⟨Nat.le_of_ble_eq_true rfl, Nat.le_of_ble_eq_true rfl⟩ (fun r8 hi9 h10 hp11 => ?_)
  obtain ⟨er12, ei13, eh14⟩ := hp11
  subst er12
  replace ei13 := ei13.symm
  subst ei13
  replace eh14 := eh14.symm
  subst eh14
  refine ax_eqq (y := some aG) (hpk) ?_
  refine ax_astore hC [(5, .ref aG), (4, .ref aF), (0, .ref o), (1, .int (nI j)), (2, .int (nI k)), (3, .int (-1))] dX11_witness_12 (by decide) rfl ?_
  refine ax_aload hC 1 dX11_witness_14 rfl ?_
  refine ax_ifnull hC dX11_witness_16 ?_
  refine ax_aload hC 0 dX11_witness_19 rfl ?_
  refine ax_ifnull hC dX11_witness_21 ?_
  refine ax_iload_n hC 5 dX11_witness_24 rfl rfl ?_
  refine ax_iconst (v := (-1)) hC dX11_witness_25 (by decide) ?_
  refine ax_icmp_ge (tgt := 31) hC dX11_witness_26 (by decide) (fun c15 => ?_) (fun c15 => ?_)
  · refine ax_aload_n hC 2 dX11_witness_31 rfl rfl ?_
    refine ax_getf (v := .ref (o + 26)) hC hO iX11 rfl 7 (by decide) (by decide +kernel) rfl rfl dX11_witness_32 ?_
    refine ax_aload hC 1 dX11_witness_35 rfl ?_
    refine ax_aload hC 1 dX11_witness_37 rfl ?_
    refine ax_callVp (st := [.ref aF, .ref (o + 26)]) hC [] hF.1 rfl (c_X7_beginning l D z B lo _ h aF _ TF hF hwF.1) (cwV 0 hC.1.2.2.2.2 gX11_witness_X7_beginning rfl rfl rfl (by decide +kernel) ⟨Nat.le_of_ble_eq_true rfl, Nat.le_of_ble_eq_true rfl⟩) rfl rfl (Nat.le_of_ble_eq_true rfl) dX11_witness_39 ⟨Nat.le_of_ble_eq_true rfl, Nat.le_of_ble_eq_true rfl⟩ (fun r16 er17 => ?_)
    subst er17
    refine ax_eqi (y := nI (sN TF 0)) ((sN_eq hwF 0).1) ?_
    refine ax_aload hC 0 dX11_witness_42 rfl ?_
    refine ax_aload hC 0 dX11_witness_44 rfl ?_
    refine ax_callVp (st := [.ref aG, .int (nI (sN TF 0)), .ref aF, .ref (o + 26)]) hC [] hG.1 rfl (c_X7_beginning l D z B lo _ h aG _ TG hG hwG.1) (cwV 0 hC.1.2.2.2.2 gX11_witness_X7_beginning rfl rfl rfl (by decide +kernel) ⟨Nat.le_of_ble_eq_true rfl, Nat.le_of_ble_eq_true rfl⟩) rfl rfl (Nat.le_of_ble_eq_true rfl) dX11_witness_46 ⟨Nat.le_of_ble_eq_true rfl, Nat.le_of_ble_eq_true rfl⟩ (fun r18 er19 => ?_)
    subst er19
    refine ax_eqi (y := nI (sN TG 0)) ((sN_eq hwG 0).1) ?_
    refine ax_callVi (st := []) hC [.ref aF, .int (nI (sN TF 0)), .ref aG, .int (nI (sN TG 0))] hHo rfl (c_X3_find l D z B lo _ h (o + 26) (o + 23) aF aG (sN TF 0) (sN TG 0) _ _ TF TG hH hS hF hG hwF hwG (sN_eq hwF 0).2 (sN_eq hwG 0).2 (by omega) (by omega) (by omega)) (cwV 4 hC.1.2.2.2.2 gX11_witness_X3_find rfl rfl rfl (by decide +kernel) ⟨Nat.le_of_ble_eq_true rfl, Nat.le_of_ble_eq_true rfl⟩) rfl rfl (Nat.le_of_ble_eq_true rfl) dX11_witness_49 ⟨Nat.le_of_ble_eq_true rfl, Nat.le_of_ble_eq_true rfl⟩ (fun r20 hi21 h22 hp23 => ?_)
    obtain ⟨ei24, fr25, hS26, hH27, hr28⟩ := hp23
    replace ei24 := ei24.symm
    subst ei24
    rcases hr28 with ⟨hr28, hfit⟩ | ⟨⟨t9, ht9, hr28⟩, hfit⟩
    · subst hr28
      refine ax_istore hC [(6, .int 0), (5, .ref aG), (4, .ref aF), (0, .ref o), (1, .int (nI j)), (2, .int (nI k)), (3, .int (-1))] dX11_witness_52 (by decide) rfl ?_
      refine ax_iload hC 0 dX11_witness_54 rfl ?_
      refine ax_if_ne (tgt := 62) hC dX11_witness_56 (by decide) (fun c29 => ?_) (fun c29 => ?_)
      · exact absurd c29 (by decide)
      · refine ax_bipush (v := (-2)) hC dX11_witness_59 (by decide) ?_
        refine ax_iret hC hr hlocks dX11_witness_61 ?_
        exact ⟨rfl, fun q hq => (fr25 q (by omega)), hS26, hH27, Or.inl ⟨rfl, hfit⟩⟩
    · subst hr28
      refine ax_istore hC [(6, .int (nI (t9 + 1))), (5, .ref aG), (4, .ref aF), (0, .ref o), (1, .int (nI j)), (2, .int (nI k)), (3, .int (-1))] dX11_witness_52 (by decide) rfl ?_
      refine ax_iload hC 0 dX11_witness_54 rfl ?_
      refine ax_if_ne (tgt := 62) hC dX11_witness_56 (by decide) (fun c30 => ?_) (fun c30 => ?_)
      · refine ax_iload_n hC 6 dX11_witness_62 rfl rfl ?_
        refine ax_if_ge (tgt := 71) hC dX11_witness_63 (by decide) (fun c31 => ?_) (fun c31 => ?_)
        · exact absurd c31 (by decide)
        · refine ax_iload hC 0 dX11_witness_66 rfl ?_
          refine ax_goto (tgt := 103) hC dX11_witness_68 (by decide) ?_
          refine ax_iret hC hr hlocks dX11_witness_103 ?_
          exact ⟨rfl, fun q hq => (fr25 q (by omega)), hS26, hH27, Or.inr ⟨nI_neL (by omega), hfit⟩⟩
      · exact absurd c30 (nI_ne0 (by omega) (by omega))
  · exact absurd c15 (by decide)

abbrev rmX11_bound : Room := { frames := 3, cells := 0, slots := 0, locals := 96 }
set_option maxRecDepth 100000 in
set_option maxHeartbeats 4000000 in
theorem c_X11_bound (l : Launch) (D : va_G) (z : Nat → ClassId) (B : Heap) (lo hi : Nat) (h : Nat → Option va_E) (o : Nat) (on kp : Int32) (k a : Nat) (T : PT) (pa : Nat → Option Nat) (hO : ObS h o on kp) (hPs : PsS z h o pa) (hN : NrS z h o) (hk : k < 16) (hpk : pa k = some a) (hP : PrC z h a (nI (pcap T)) T) (hcap : pcap T ≤ 60) (hb : o + 147 ≤ a) : Met l yX11_bound wsX11_bound rmX11_bound (KP D vwCl B lo hi h (ty6 z) [.ref o, .int (nI k), .int 0]) (KQi D vwCl B lo (ty6 z) (fun _ hi' h' => hi' = hi ∧ (∀ q, ¬ q = o + 40 → h' q = h q) ∧ NrS z h' o)) 0 0 (fun q => lo ≤ q) := by
  refine ax_met (by decide) rfl (Nat.le_of_ble_eq_true rfl) (L0 := [(0, .ref o), (1, .int (nI k)), (2, .int 0)]) rfl ?_
  intro p e s m args below meth c hC hr hlocks hnm hargs
  have iX11 : ∀ w ∈ u_ws RX11 TX11 13, w ∈ wsX11_bound := by decide +kernel
  obtain ⟨xg, hxg⟩ := id hN
  refine ax_aload_n hC 0 dX11_bound_0 rfl rfl ?_
  refine ax_iload_n hC 1 dX11_bound_1 rfl rfl ?_
  refine ax_callVq (st := []) hC [.int (nI k)] hO rfl (c_X11_protocolAt l D z B lo _ h o on kp k pa hO hPs (by omega)) (cwV 1 hC.1.2.2.2.2 gX11_bound_X11_protocolAt rfl rfl rfl (by decide +kernel) ⟨Nat.le_of_ble_eq_true rfl, Nat.le_of_ble_eq_true rfl⟩) rfl rfl (Nat.le_of_ble_eq_true rfl) dX11_bound_2 ⟨Nat.le_of_ble_eq_true rfl, Nat.le_of_ble_eq_true rfl⟩ (fun r1 hi2 h3 hp4 => ?_)
  obtain ⟨er5, ei6, eh7⟩ := hp4
  subst er5
  replace ei6 := ei6.symm
  subst ei6
  replace eh7 := eh7.symm
  subst eh7
  refine ax_eqq (y := some a) (hpk) ?_
  refine ax_astore_n hC [(3, .ref a), (0, .ref o), (1, .int (nI k)), (2, .int 0)] dX11_bound_5 rfl (by decide) rfl ?_
  refine ax_aload_n hC 0 dX11_bound_6 rfl rfl ?_
  refine ax_ifnull hC dX11_bound_7 ?_
  refine ax_iload_n hC 3 dX11_bound_10 rfl rfl ?_
  refine ax_if_lt (tgt := 19) hC dX11_bound_11 (by decide) (fun c8 => ?_) (fun c8 => ?_)
  · exact absurd c8 (by decide)
  · refine ax_iload_n hC 3 dX11_bound_14 rfl rfl ?_
    refine ax_iconst (v := 1) hC dX11_bound_15 (by decide) ?_
    refine ax_icmp_le (tgt := 21) hC dX11_bound_16 (by decide) (fun c9 => ?_) (fun c9 => ?_)
    · refine ax_aload_n hC 0 dX11_bound_21 rfl rfl ?_
      refine ax_iload_n hC 3 dX11_bound_22 rfl rfl ?_
      refine ax_aload_n hC 1 dX11_bound_23 rfl rfl ?_
      refine ax_getf (v := .ref (o + 40)) hC hO iX11 rfl 9 (by decide) (by decide +kernel) rfl rfl dX11_bound_24 ?_
      refine ax_callVi (st := []) hC [.int 0, .ref (o + 40)] hP.1 rfl (c_X7_longestRow l D z B lo _ h a (o + 40) 0 T xg hP hcap (by omega) hxg) (cwV 2 hC.1.2.2.2.2 gX11_bound_X7_longestRow rfl rfl rfl (by decide +kernel) ⟨Nat.le_of_ble_eq_true rfl, Nat.le_of_ble_eq_true rfl⟩) rfl rfl (Nat.le_of_ble_eq_true rfl) dX11_bound_27 ⟨Nat.le_of_ble_eq_true rfl, Nat.le_of_ble_eq_true rfl⟩ (fun r10 hi11 h12 hp13 => ?_)
      obtain ⟨ei14, fr15, g16, hg17⟩ := hp13
      replace ei14 := ei14.symm
      subst ei14
      refine ax_iret hC hr hlocks dX11_bound_30 ?_
      exact ⟨rfl, fun q hq => (fr15 q (by omega)), g16, hg17⟩
    · exact absurd c9 (by decide)

abbrev rmX11_ask : Room := { frames := 1, cells := 0, slots := 0, locals := 21 }
set_option maxRecDepth 100000 in
set_option maxHeartbeats 4000000 in
theorem c_X11_ask (l : Launch) (D : va_G) (z : Nat → ClassId) (B : Heap) (lo hi : Nat) (h : Nat → Option va_E) (o : Nat) (on kp : Int32) (k a : Nat) (nd : Int32) (T : PT) (pa : Nat → Option Nat) (hO : ObS h o on kp) (hPs : PsS z h o pa) (hk : k < 16) (hpk : pa k = some a) (hP : PrC z h a nd T) (hw : wfP T) : Met l yX11_ask wsX11_ask rmX11_ask (KP D vwCl B lo hi h (ty6 z) [.ref o, .int (nI k), .int 4]) (KQp D vwCl B lo hi h (ty6 z) (fun r => r = pK T (sN T 0))) 0 0 (fun q => lo ≤ q) := by
  refine ax_met (by decide) rfl (Nat.le_of_ble_eq_true rfl) (L0 := [(0, .ref o), (1, .int (nI k)), (2, .int 4)]) rfl ?_
  intro p e s m args below meth c hC hr hlocks hnm hargs
  refine ax_aload_n hC 0 dX11_ask_0 rfl rfl ?_
  refine ax_iload_n hC 1 dX11_ask_1 rfl rfl ?_
  refine ax_callVq (st := []) hC [.int (nI k)] hO rfl (c_X11_protocolAt l D z B lo _ h o on kp k pa hO hPs (by omega)) (cwV 1 hC.1.2.2.2.2 gX11_ask_X11_protocolAt rfl rfl rfl (by decide +kernel) ⟨Nat.le_of_ble_eq_true rfl, Nat.le_of_ble_eq_true rfl⟩) rfl rfl (Nat.le_of_ble_eq_true rfl) dX11_ask_2 ⟨Nat.le_of_ble_eq_true rfl, Nat.le_of_ble_eq_true rfl⟩ (fun r1 hi2 h3 hp4 => ?_)
  obtain ⟨er5, ei6, eh7⟩ := hp4
  subst er5
  replace ei6 := ei6.symm
  subst ei6
  replace eh7 := eh7.symm
  subst eh7
  refine ax_eqq (y := some a) (hpk) ?_
  refine ax_astore_n hC [(3, .ref a), (0, .ref o), (1, .int (nI k)), (2, .int 4)] dX11_ask_5 rfl (by decide) rfl ?_
  refine ax_aload_n hC 0 dX11_ask_6 rfl rfl ?_
  refine ax_ifnonnull (tgt := 12) hC dX11_ask_7 (by decide) ?_
  refine ax_iload_n hC 3 dX11_ask_12 rfl rfl ?_
  refine ax_tableIn (tgt := 73) (off := 60) hC dX11_ask_13 (by decide) (by decide) (by decide) (by decide) ?_
  refine ax_aload_n hC 0 dX11_ask_73 rfl rfl ?_
  refine ax_aload_n hC 0 dX11_ask_74 rfl rfl ?_
  refine ax_callVp (st := [.ref a]) hC [] hP.1 rfl (c_X7_beginning l D z B lo _ h a _ T hP hw.1) (cwV 0 hC.1.2.2.2.2 gX11_ask_X7_beginning rfl rfl rfl (by decide +kernel) ⟨Nat.le_of_ble_eq_true rfl, Nat.le_of_ble_eq_true rfl⟩) rfl rfl (Nat.le_of_ble_eq_true rfl) dX11_ask_75 ⟨Nat.le_of_ble_eq_true rfl, Nat.le_of_ble_eq_true rfl⟩ (fun r8 er9 => ?_)
  subst er9
  refine ax_eqi (y := nI (sN T 0)) ((sN_eq hw 0).1) ?_
  refine ax_callVp (st := []) hC [.int (nI (sN T 0))] hP.1 rfl (c_X7_kindOf l D z B lo _ h a _ T (nI (sN T 0)) hP hw.1) (cwV 1 hC.1.2.2.2.2 gX11_ask_X7_kindOf rfl rfl rfl (by decide +kernel) ⟨Nat.le_of_ble_eq_true rfl, Nat.le_of_ble_eq_true rfl⟩) rfl rfl (Nat.le_of_ble_eq_true rfl) dX11_ask_78 ⟨Nat.le_of_ble_eq_true rfl, Nat.le_of_ble_eq_true rfl⟩ (fun r10 er11 => ?_)
  subst er11
  refine ax_eqi (y := pK T (sN T 0)) (rd_nat (sN_eq hw 0).2 (by have := hw.1; omega)) ?_
  refine ax_iret hC hr hlocks dX11_ask_81 ?_
  exact ⟨rfl, rfl, rfl⟩

abbrev rmX11_meet : Room := { frames := 6, cells := 0, slots := 0, locals := 165 }
set_option maxRecDepth 100000 in
set_option maxHeartbeats 4000000 in
theorem c_X11_meet_0 (l : Launch) (D : va_G) (z : Nat → ClassId) (B : Heap) (lo hi : Nat) (h : Nat → Option va_E) (o : Nat) (on kp : Int32) (j k aF aG : Nat) (ndF ndG : Int32) (TF TG : PT) (pa : Nat → Option Nat) (nr : Int32) (W : Nat → Nat → Prop) (nr0 ov0 : Int32) (t0 t1 : Option Nat) (hO : ObS h o on kp) (hPs : PsS z h o pa) (hj : j < 16) (hk : k < 16) (hpj : pa j = some aF) (hpk : pa k = some aG) (hF : PrC z h aF ndF TF) (hG : PrC z h aG ndG TG) (hwF : wfP TF) (hwG : wfP TG) (hbF : o + 147 ≤ aF) (hbG : o + 147 ≤ aG) (hS : CmpS z h (o + 23)) (hM : MtC z h (o + 32) (o + 23) t0 t1 nr0 ov0) (hMW : MeetW TF TG W) (hW0 : W (sN TF 0) (sN TG 0)) (hn1 : nr = 1 ∨ nr = 2) : Met l yX11_meet wsX11_meet rmX11_meet (KP D vwCl B lo hi h (ty6 z) [.ref o, .int (nI j), .int (nI k), .int nr, .int 0]) (KQi D vwCl B lo (ty6 z) (fun r hi' h' => hi' = hi ∧ (∀ q, (q < o + 23 ∨ (o + 26 ≤ q ∧ q < o + 32) ∨ o + 40 ≤ q) → h' q = h q) ∧ CmpS z h' (o + 23) ∧ ∃ ov, MtC z h' (o + 32) (o + 23) (some aF) (some aG) nr ov ∧ (r = -3 ∨ ov = 0))) 0 0 (fun q => lo ≤ q) := by
  refine ax_met (by decide) rfl (Nat.le_of_ble_eq_true rfl) (L0 := [(0, .ref o), (1, .int (nI j)), (2, .int (nI k)), (3, .int nr), (4, .int 0)]) rfl ?_
  intro p e s m args below meth c hC hr hlocks hnm hargs
  have iX11 : ∀ w ∈ u_ws RX11 TX11 13, w ∈ wsX11_meet := by decide +kernel
  have iX4 : ∀ w ∈ u_ws RX4 TX4 15, w ∈ wsX11_meet := by decide +kernel
  obtain ⟨_, _, _, _, _, _, _, _, _, _, _, _, hMo, -⟩ := id hM
  refine ax_aload_n hC 0 dX11_meet_0 rfl rfl ?_
  refine ax_iload_n hC 1 dX11_meet_1 rfl rfl ?_
  refine ax_callVq (st := []) hC [.int (nI j)] hO rfl (c_X11_protocolAt l D z B lo _ h o on kp j pa hO hPs (by omega)) (cwV 1 hC.1.2.2.2.2 gX11_meet_X11_protocolAt rfl rfl rfl (by decide +kernel) ⟨Nat.le_of_ble_eq_true rfl, Nat.le_of_ble_eq_true rfl⟩) rfl rfl (Nat.le_of_ble_eq_true rfl) dX11_meet_2 ⟨Nat.le_of_ble_eq_true rfl, Nat.le_of_ble_eq_true rfl⟩ (fun r1 hi2 h3 hp4 => ?_)
  obtain ⟨er5, ei6, eh7⟩ := hp4
  subst er5
  replace ei6 := ei6.symm
  subst ei6
  replace eh7 := eh7.symm
  subst eh7
  refine ax_eqq (y := some aF) (hpj) ?_
  refine ax_astore hC [(5, .ref aF), (0, .ref o), (1, .int (nI j)), (2, .int (nI k)), (3, .int nr), (4, .int 0)] dX11_meet_5 (by decide) rfl ?_
  refine ax_aload_n hC 1 dX11_meet_7 rfl rfl ?_
  refine ax_iload_n hC 3 dX11_meet_8 rfl rfl ?_
  refine ax_callVq (st := []) hC [.int (nI k)] hO rfl (c_X11_protocolAt l D z B lo _ h o on kp k pa hO hPs (by omega)) (cwV 1 hC.1.2.2.2.2 gX11_meet_X11_protocolAt rfl rfl rfl (by decide +kernel) ⟨Nat.le_of_ble_eq_true rfl, Nat.le_of_ble_eq_true rfl⟩) rfl rfl (Nat.le_of_ble_eq_true rfl) dX11_meet_9 ⟨Nat.le_of_ble_eq_true rfl, Nat.le_of_ble_eq_true rfl⟩ (fun r8 hi9 h10 hp11 => ?_)
  obtain ⟨er12, ei13, eh14⟩ := hp11
  subst er12
  replace ei13 := ei13.symm
  subst ei13
  replace eh14 := eh14.symm
  subst eh14
  refine ax_eqq (y := some aG) (hpk) ?_
  refine ax_astore hC [(6, .ref aG), (5, .ref aF), (0, .ref o), (1, .int (nI j)), (2, .int (nI k)), (3, .int nr), (4, .int 0)] dX11_meet_12 (by decide) rfl ?_
  refine ax_aload hC 1 dX11_meet_14 rfl ?_
  refine ax_ifnull hC dX11_meet_16 ?_
  refine ax_aload hC 0 dX11_meet_19 rfl ?_
  refine ax_ifnull hC dX11_meet_21 ?_
  refine ax_iload_n hC 5 dX11_meet_24 rfl rfl ?_
  refine ax_iconst (v := 1) hC dX11_meet_25 (by decide) ?_
  refine ax_icmp_lt (tgt := 45) hC dX11_meet_26 (by decide) (fun c15 => ?_) (fun c15 => ?_)
  · exact absurd c15 (by rcases hn1 with rfl | rfl <;> decide)
  · refine ax_iload_n hC 5 dX11_meet_29 rfl rfl ?_
    refine ax_iconst (v := 2) hC dX11_meet_30 (by decide) ?_
    refine ax_icmp_gt (tgt := 45) hC dX11_meet_31 (by decide) (fun c16 => ?_) (fun c16 => ?_)
    · exact absurd c16 (by rcases hn1 with rfl | rfl <;> decide)
    · refine ax_iload hC 6 dX11_meet_34 rfl ?_
      refine ax_if_lt (tgt := 45) hC dX11_meet_36 (by decide) (fun c17 => ?_) (fun c17 => ?_)
      · exact absurd c17 (by decide)
      · refine ax_iload hC 6 dX11_meet_39 rfl ?_
        refine ax_iconst (v := 4) hC dX11_meet_41 (by decide) ?_
        refine ax_icmp_le (tgt := 47) hC dX11_meet_42 (by decide) (fun c18 => ?_) (fun c18 => ?_)
        · refine ax_aload_n hC 2 dX11_meet_47 rfl rfl ?_
          refine ax_getf (v := .ref (o + 32)) hC hO iX11 rfl 8 (by decide) (by decide +kernel) rfl rfl dX11_meet_48 ?_
          refine ax_aload hC 1 dX11_meet_51 rfl ?_
          refine ax_aload hC 0 dX11_meet_53 rfl ?_
          refine ax_iload_n hC 5 dX11_meet_55 rfl rfl ?_
          refine ax_callVi (st := []) hC [.ref aF, .ref aG, .int nr] hMo rfl (c_X4_explore l D z B lo _ h (o + 32) (o + 23) aF aG nr nr0 ov0 t0 t1 TF TG W _ _ hM hF hG hwF hwG (by omega) (by omega) hMW hW0 hS (by omega) hn1) (cwV 3 hC.1.2.2.2.2 gX11_meet_X4_explore rfl rfl rfl (by decide +kernel) ⟨Nat.le_of_ble_eq_true rfl, Nat.le_of_ble_eq_true rfl⟩) rfl rfl (Nat.le_of_ble_eq_true rfl) dX11_meet_56 ⟨Nat.le_of_ble_eq_true rfl, Nat.le_of_ble_eq_true rfl⟩ (fun r19 hi20 h21 hp22 => ?_)
          obtain ⟨ei23, fr24, hS25, ov26, hM27, hr28, hc29⟩ := hp22
          replace ei23 := ei23.symm
          subst ei23
          obtain ⟨xfo, xja, xcl, xfe, xmo, _, _, _, _, _, _, _, xm0, -, -, -, -, -, -, -, -, -, hov, hjc⟩ := id hM27
          obtain ⟨rfl, rfl, rfl⟩ := hjc.resolve_left (fun q9 => by cases q9)
          have x30 : h21 o = some (.inr (13, [.ref (o + 1), .ref (o + 2), .int on, .ref (o + 3), .ref (o + 15), .ref (o + 21), .ref (o + 23), .ref (o + 26), .ref (o + 32), .ref (o + 40), .ref (o + 41), .ref (o + 94), .int kp])) := (fr24 _ (by omega)).trans hO
          by_cases hov0 : ov26 = 0
          · rw [if_pos hov0] at hr28
            subst hr28
            refine ax_if_ne (tgt := 65) hC dX11_meet_59 (by decide) (fun c31 => ?_) (fun c31 => ?_)
            · refine ax_iload hC 6 dX11_meet_65 rfl ?_
              refine ax_tableIn (tgt := 96) (off := 29) hC dX11_meet_67 (by decide) (by decide) (by decide) (by decide) ?_
              refine ax_aload_n hC 2 dX11_meet_96 rfl rfl ?_
              refine ax_getf (v := .ref (o + 32)) hC x30 iX11 rfl 8 (by decide) (by decide +kernel) rfl rfl dX11_meet_97 ?_
              refine ax_getf (v := .int xfo) hC xm0 iX4 rfl 0 (by decide) (by decide +kernel) rfl rfl dX11_meet_100 ?_
              refine ax_iret hC hr hlocks dX11_meet_103 ?_
              exact ⟨rfl, fun q hq => (fr24 q (by omega)), hS25, _, hM27, Or.inr hov0⟩
            · exact absurd c31 (by decide)
          · rw [if_neg hov0] at hr28
            subst hr28
            refine ax_if_ne (tgt := 65) hC dX11_meet_59 (by decide) (fun c32 => ?_) (fun c32 => ?_)
            · exact absurd c32 (by decide)
            · refine ax_bipush (v := (-3)) hC dX11_meet_62 (by decide) ?_
              refine ax_iret hC hr hlocks dX11_meet_64 ?_
              exact ⟨rfl, fun q hq => (fr24 q (by omega)), hS25, _, hM27, Or.inl rfl⟩
        · exact absurd c18 (by decide)

set_option maxRecDepth 100000 in
set_option maxHeartbeats 4000000 in
theorem c_X11_meet_1 (l : Launch) (D : va_G) (z : Nat → ClassId) (B : Heap) (lo hi : Nat) (h : Nat → Option va_E) (o : Nat) (on kp : Int32) (j k aF aG : Nat) (ndF ndG : Int32) (TF TG : PT) (pa : Nat → Option Nat) (nr : Int32) (W : Nat → Nat → Prop) (hO : ObS h o on kp) (hPs : PsS z h o pa) (hj : j < 16) (hk : k < 16) (hpj : pa j = some aF) (hpk : pa k = some aG) (hF : PrC z h aF ndF TF) (hG : PrC z h aG ndG TG) (hwF : wfP TF) (hwG : wfP TG) (hbF : o + 147 ≤ aF) (hbG : o + 147 ≤ aG) (hS : CmpS z h (o + 23)) (hM : MtC z h (o + 32) (o + 23) (some aF) (some aG) nr 0) (hMW : MeetW TF TG W) (hW0 : W (sN TF 0) (sN TG 0)) (hn1 : nr = 1 ∨ nr = 2) : Met l yX11_meet wsX11_meet rmX11_meet (KP D vwCl B lo hi h (ty6 z) [.ref o, .int (nI j), .int (nI k), .int nr, .int 1]) (KQi D vwCl B lo (ty6 z) (fun r hi' h' => r = 0 ∧ hi' = hi ∧ (∀ q, (q < o + 23 ∨ (o + 26 ≤ q ∧ q < o + 32) ∨ o + 40 ≤ q) → h' q = h q) ∧ CmpS z h' (o + 23) ∧ MtC z h' (o + 32) (o + 23) (some aF) (some aG) nr 0)) 0 0 (fun q => lo ≤ q) := by
  refine ax_met (by decide) rfl (Nat.le_of_ble_eq_true rfl) (L0 := [(0, .ref o), (1, .int (nI j)), (2, .int (nI k)), (3, .int nr), (4, .int 1)]) rfl ?_
  intro p e s m args below meth c hC hr hlocks hnm hargs
  have iX11 : ∀ w ∈ u_ws RX11 TX11 13, w ∈ wsX11_meet := by decide +kernel
  have iX4 : ∀ w ∈ u_ws RX4 TX4 15, w ∈ wsX11_meet := by decide +kernel
  obtain ⟨_, _, _, _, _, _, _, _, _, _, _, _, hMo, -⟩ := id hM
  refine ax_aload_n hC 0 dX11_meet_0 rfl rfl ?_
  refine ax_iload_n hC 1 dX11_meet_1 rfl rfl ?_
  refine ax_callVq (st := []) hC [.int (nI j)] hO rfl (c_X11_protocolAt l D z B lo _ h o on kp j pa hO hPs (by omega)) (cwV 1 hC.1.2.2.2.2 gX11_meet_X11_protocolAt rfl rfl rfl (by decide +kernel) ⟨Nat.le_of_ble_eq_true rfl, Nat.le_of_ble_eq_true rfl⟩) rfl rfl (Nat.le_of_ble_eq_true rfl) dX11_meet_2 ⟨Nat.le_of_ble_eq_true rfl, Nat.le_of_ble_eq_true rfl⟩ (fun r1 hi2 h3 hp4 => ?_)
  obtain ⟨er5, ei6, eh7⟩ := hp4
  subst er5
  replace ei6 := ei6.symm
  subst ei6
  replace eh7 := eh7.symm
  subst eh7
  refine ax_eqq (y := some aF) (hpj) ?_
  refine ax_astore hC [(5, .ref aF), (0, .ref o), (1, .int (nI j)), (2, .int (nI k)), (3, .int nr), (4, .int 1)] dX11_meet_5 (by decide) rfl ?_
  refine ax_aload_n hC 1 dX11_meet_7 rfl rfl ?_
  refine ax_iload_n hC 3 dX11_meet_8 rfl rfl ?_
  refine ax_callVq (st := []) hC [.int (nI k)] hO rfl (c_X11_protocolAt l D z B lo _ h o on kp k pa hO hPs (by omega)) (cwV 1 hC.1.2.2.2.2 gX11_meet_X11_protocolAt rfl rfl rfl (by decide +kernel) ⟨Nat.le_of_ble_eq_true rfl, Nat.le_of_ble_eq_true rfl⟩) rfl rfl (Nat.le_of_ble_eq_true rfl) dX11_meet_9 ⟨Nat.le_of_ble_eq_true rfl, Nat.le_of_ble_eq_true rfl⟩ (fun r8 hi9 h10 hp11 => ?_)
  obtain ⟨er12, ei13, eh14⟩ := hp11
  subst er12
  replace ei13 := ei13.symm
  subst ei13
  replace eh14 := eh14.symm
  subst eh14
  refine ax_eqq (y := some aG) (hpk) ?_
  refine ax_astore hC [(6, .ref aG), (5, .ref aF), (0, .ref o), (1, .int (nI j)), (2, .int (nI k)), (3, .int nr), (4, .int 1)] dX11_meet_12 (by decide) rfl ?_
  refine ax_aload hC 1 dX11_meet_14 rfl ?_
  refine ax_ifnull hC dX11_meet_16 ?_
  refine ax_aload hC 0 dX11_meet_19 rfl ?_
  refine ax_ifnull hC dX11_meet_21 ?_
  refine ax_iload_n hC 5 dX11_meet_24 rfl rfl ?_
  refine ax_iconst (v := 1) hC dX11_meet_25 (by decide) ?_
  refine ax_icmp_lt (tgt := 45) hC dX11_meet_26 (by decide) (fun c15 => ?_) (fun c15 => ?_)
  · exact absurd c15 (by rcases hn1 with rfl | rfl <;> decide)
  · refine ax_iload_n hC 5 dX11_meet_29 rfl rfl ?_
    refine ax_iconst (v := 2) hC dX11_meet_30 (by decide) ?_
    refine ax_icmp_gt (tgt := 45) hC dX11_meet_31 (by decide) (fun c16 => ?_) (fun c16 => ?_)
    · exact absurd c16 (by rcases hn1 with rfl | rfl <;> decide)
    · refine ax_iload hC 6 dX11_meet_34 rfl ?_
      refine ax_if_lt (tgt := 45) hC dX11_meet_36 (by decide) (fun c17 => ?_) (fun c17 => ?_)
      · exact absurd c17 (by decide)
      · refine ax_iload hC 6 dX11_meet_39 rfl ?_
        refine ax_iconst (v := 4) hC dX11_meet_41 (by decide) ?_
        refine ax_icmp_le (tgt := 47) hC dX11_meet_42 (by decide) (fun c18 => ?_) (fun c18 => ?_)
        · refine ax_aload_n hC 2 dX11_meet_47 rfl rfl ?_
          refine ax_getf (v := .ref (o + 32)) hC hO iX11 rfl 8 (by decide) (by decide +kernel) rfl rfl dX11_meet_48 ?_
          refine ax_aload hC 1 dX11_meet_51 rfl ?_
          refine ax_aload hC 0 dX11_meet_53 rfl ?_
          refine ax_iload_n hC 5 dX11_meet_55 rfl rfl ?_
          refine ax_callVi (st := []) hC [.ref aF, .ref aG, .int nr] hMo rfl (c_X4_explore l D z B lo _ h (o + 32) (o + 23) aF aG nr nr 0 (some aF) (some aG) TF TG W _ _ hM hF hG hwF hwG (by omega) (by omega) hMW hW0 hS (by omega) hn1) (cwV 3 hC.1.2.2.2.2 gX11_meet_X4_explore rfl rfl rfl (by decide +kernel) ⟨Nat.le_of_ble_eq_true rfl, Nat.le_of_ble_eq_true rfl⟩) rfl rfl (Nat.le_of_ble_eq_true rfl) dX11_meet_56 ⟨Nat.le_of_ble_eq_true rfl, Nat.le_of_ble_eq_true rfl⟩ (fun r19 hi20 h21 hp22 => ?_)
          obtain ⟨ei23, fr24, hS25, ov26, hM27, hr28, hc29⟩ := hp22
          replace ei23 := ei23.symm
          subst ei23
          obtain ⟨xfo, xja, xcl, xfe, xmo, _, _, _, _, _, _, _, xm0, -, -, -, -, -, -, -, -, -, hov, hjc⟩ := id hM27
          obtain ⟨rfl, rfl, rfl⟩ := hjc.resolve_left (fun q9 => by cases q9)
          have x30 : h21 o = some (.inr (13, [.ref (o + 1), .ref (o + 2), .int on, .ref (o + 3), .ref (o + 15), .ref (o + 21), .ref (o + 23), .ref (o + 26), .ref (o + 32), .ref (o + 40), .ref (o + 41), .ref (o + 94), .int kp])) := (fr24 _ (by omega)).trans hO
          obtain rfl : ov26 = 0 := (hc29 rfl rfl rfl)
          rw [if_pos rfl] at hr28
          subst hr28
          refine ax_if_ne (tgt := 65) hC dX11_meet_59 (by decide) (fun c31 => ?_) (fun c31 => ?_)
          · refine ax_iload hC 6 dX11_meet_65 rfl ?_
            refine ax_tableIn (tgt := 104) (off := 37) hC dX11_meet_67 (by decide) (by decide) (by decide) (by decide) ?_
            refine ax_aload_n hC 2 dX11_meet_104 rfl rfl ?_
            refine ax_getf (v := .ref (o + 32)) hC x30 iX11 rfl 8 (by decide) (by decide +kernel) rfl rfl dX11_meet_105 ?_
            refine ax_getf (v := .int 0) hC xm0 iX4 rfl 1 (by decide) (by decide +kernel) rfl rfl dX11_meet_108 ?_
            refine ax_iret hC hr hlocks dX11_meet_111 ?_
            exact ⟨rfl, rfl, fun q hq => (fr24 q (by omega)), hS25, hM27⟩
          · exact absurd c31 (by decide)
        · exact absurd c18 (by decide)

set_option maxRecDepth 100000 in
set_option maxHeartbeats 4000000 in
theorem c_X11_meet_2 (l : Launch) (D : va_G) (z : Nat → ClassId) (B : Heap) (lo hi : Nat) (h : Nat → Option va_E) (o : Nat) (on kp : Int32) (j k aF aG : Nat) (ndF ndG : Int32) (TF TG : PT) (pa : Nat → Option Nat) (nr : Int32) (W : Nat → Nat → Prop) (hO : ObS h o on kp) (hPs : PsS z h o pa) (hj : j < 16) (hk : k < 16) (hpj : pa j = some aF) (hpk : pa k = some aG) (hF : PrC z h aF ndF TF) (hG : PrC z h aG ndG TG) (hwF : wfP TF) (hwG : wfP TG) (hbF : o + 147 ≤ aF) (hbG : o + 147 ≤ aG) (hS : CmpS z h (o + 23)) (hM : MtC z h (o + 32) (o + 23) (some aF) (some aG) nr 0) (hMW : MeetW TF TG W) (hW0 : W (sN TF 0) (sN TG 0)) (hn1 : nr = 1 ∨ nr = 2) : Met l yX11_meet wsX11_meet rmX11_meet (KP D vwCl B lo hi h (ty6 z) [.ref o, .int (nI j), .int (nI k), .int nr, .int 2]) (KQi D vwCl B lo (ty6 z) (fun r hi' h' => r = 0 ∧ hi' = hi ∧ (∀ q, (q < o + 23 ∨ (o + 26 ≤ q ∧ q < o + 32) ∨ o + 40 ≤ q) → h' q = h q) ∧ CmpS z h' (o + 23) ∧ MtC z h' (o + 32) (o + 23) (some aF) (some aG) nr 0)) 0 0 (fun q => lo ≤ q) := by
  refine ax_met (by decide) rfl (Nat.le_of_ble_eq_true rfl) (L0 := [(0, .ref o), (1, .int (nI j)), (2, .int (nI k)), (3, .int nr), (4, .int 2)]) rfl ?_
  intro p e s m args below meth c hC hr hlocks hnm hargs
  have iX11 : ∀ w ∈ u_ws RX11 TX11 13, w ∈ wsX11_meet := by decide +kernel
  have iX4 : ∀ w ∈ u_ws RX4 TX4 15, w ∈ wsX11_meet := by decide +kernel
  obtain ⟨_, _, _, _, _, _, _, _, _, _, _, _, hMo, -⟩ := id hM
  refine ax_aload_n hC 0 dX11_meet_0 rfl rfl ?_
  refine ax_iload_n hC 1 dX11_meet_1 rfl rfl ?_
  refine ax_callVq (st := []) hC [.int (nI j)] hO rfl (c_X11_protocolAt l D z B lo _ h o on kp j pa hO hPs (by omega)) (cwV 1 hC.1.2.2.2.2 gX11_meet_X11_protocolAt rfl rfl rfl (by decide +kernel) ⟨Nat.le_of_ble_eq_true rfl, Nat.le_of_ble_eq_true rfl⟩) rfl rfl (Nat.le_of_ble_eq_true rfl) dX11_meet_2 ⟨Nat.le_of_ble_eq_true rfl, Nat.le_of_ble_eq_true rfl⟩ (fun r1 hi2 h3 hp4 => ?_)
  obtain ⟨er5, ei6, eh7⟩ := hp4
  subst er5
  replace ei6 := ei6.symm
  subst ei6
  replace eh7 := eh7.symm
  subst eh7
  refine ax_eqq (y := some aF) (hpj) ?_
  refine ax_astore hC [(5, .ref aF), (0, .ref o), (1, .int (nI j)), (2, .int (nI k)), (3, .int nr), (4, .int 2)] dX11_meet_5 (by decide) rfl ?_
  refine ax_aload_n hC 1 dX11_meet_7 rfl rfl ?_
  refine ax_iload_n hC 3 dX11_meet_8 rfl rfl ?_
  refine ax_callVq (st := []) hC [.int (nI k)] hO rfl (c_X11_protocolAt l D z B lo _ h o on kp k pa hO hPs (by omega)) (cwV 1 hC.1.2.2.2.2 gX11_meet_X11_protocolAt rfl rfl rfl (by decide +kernel) ⟨Nat.le_of_ble_eq_true rfl, Nat.le_of_ble_eq_true rfl⟩) rfl rfl (Nat.le_of_ble_eq_true rfl) dX11_meet_9 ⟨Nat.le_of_ble_eq_true rfl, Nat.le_of_ble_eq_true rfl⟩ (fun r8 hi9 h10 hp11 => ?_)
  obtain ⟨er12, ei13, eh14⟩ := hp11
  subst er12
  replace ei13 := ei13.symm
  subst ei13
  replace eh14 := eh14.symm
  subst eh14
  refine ax_eqq (y := some aG) (hpk) ?_
  refine ax_astore hC [(6, .ref aG), (5, .ref aF), (0, .ref o), (1, .int (nI j)), (2, .int (nI k)), (3, .int nr), (4, .int 2)] dX11_meet_12 (by decide) rfl ?_
  refine ax_aload hC 1 dX11_meet_14 rfl ?_
  refine ax_ifnull hC dX11_meet_16 ?_
  refine ax_aload hC 0 dX11_meet_19 rfl ?_
  refine ax_ifnull hC dX11_meet_21 ?_
  refine ax_iload_n hC 5 dX11_meet_24 rfl rfl ?_
  refine ax_iconst (v := 1) hC dX11_meet_25 (by decide) ?_
  refine ax_icmp_lt (tgt := 45) hC dX11_meet_26 (by decide) (fun c15 => ?_) (fun c15 => ?_)
  · exact absurd c15 (by rcases hn1 with rfl | rfl <;> decide)
  · refine ax_iload_n hC 5 dX11_meet_29 rfl rfl ?_
    refine ax_iconst (v := 2) hC dX11_meet_30 (by decide) ?_
    refine ax_icmp_gt (tgt := 45) hC dX11_meet_31 (by decide) (fun c16 => ?_) (fun c16 => ?_)
    · exact absurd c16 (by rcases hn1 with rfl | rfl <;> decide)
    · refine ax_iload hC 6 dX11_meet_34 rfl ?_
      refine ax_if_lt (tgt := 45) hC dX11_meet_36 (by decide) (fun c17 => ?_) (fun c17 => ?_)
      · exact absurd c17 (by decide)
      · refine ax_iload hC 6 dX11_meet_39 rfl ?_
        refine ax_iconst (v := 4) hC dX11_meet_41 (by decide) ?_
        refine ax_icmp_le (tgt := 47) hC dX11_meet_42 (by decide) (fun c18 => ?_) (fun c18 => ?_)
        · refine ax_aload_n hC 2 dX11_meet_47 rfl rfl ?_
          refine ax_getf (v := .ref (o + 32)) hC hO iX11 rfl 8 (by decide) (by decide +kernel) rfl rfl dX11_meet_48 ?_
          refine ax_aload hC 1 dX11_meet_51 rfl ?_
          refine ax_aload hC 0 dX11_meet_53 rfl ?_
          refine ax_iload_n hC 5 dX11_meet_55 rfl rfl ?_
          refine ax_callVi (st := []) hC [.ref aF, .ref aG, .int nr] hMo rfl (c_X4_explore l D z B lo _ h (o + 32) (o + 23) aF aG nr nr 0 (some aF) (some aG) TF TG W _ _ hM hF hG hwF hwG (by omega) (by omega) hMW hW0 hS (by omega) hn1) (cwV 3 hC.1.2.2.2.2 gX11_meet_X4_explore rfl rfl rfl (by decide +kernel) ⟨Nat.le_of_ble_eq_true rfl, Nat.le_of_ble_eq_true rfl⟩) rfl rfl (Nat.le_of_ble_eq_true rfl) dX11_meet_56 ⟨Nat.le_of_ble_eq_true rfl, Nat.le_of_ble_eq_true rfl⟩ (fun r19 hi20 h21 hp22 => ?_)
          obtain ⟨ei23, fr24, hS25, ov26, hM27, hr28, hc29⟩ := hp22
          replace ei23 := ei23.symm
          subst ei23
          obtain ⟨xfo, xja, xcl, xfe, xmo, _, _, _, _, _, _, _, xm0, -, -, -, -, -, -, -, -, -, hov, hjc⟩ := id hM27
          obtain ⟨rfl, rfl, rfl⟩ := hjc.resolve_left (fun q9 => by cases q9)
          have x30 : h21 o = some (.inr (13, [.ref (o + 1), .ref (o + 2), .int on, .ref (o + 3), .ref (o + 15), .ref (o + 21), .ref (o + 23), .ref (o + 26), .ref (o + 32), .ref (o + 40), .ref (o + 41), .ref (o + 94), .int kp])) := (fr24 _ (by omega)).trans hO
          obtain rfl : ov26 = 0 := (hc29 rfl rfl rfl)
          rw [if_pos rfl] at hr28
          subst hr28
          refine ax_if_ne (tgt := 65) hC dX11_meet_59 (by decide) (fun c31 => ?_) (fun c31 => ?_)
          · refine ax_iload hC 6 dX11_meet_65 rfl ?_
            refine ax_tableIn (tgt := 112) (off := 45) hC dX11_meet_67 (by decide) (by decide) (by decide) (by decide) ?_
            refine ax_aload_n hC 2 dX11_meet_112 rfl rfl ?_
            refine ax_getf (v := .ref (o + 32)) hC x30 iX11 rfl 8 (by decide) (by decide +kernel) rfl rfl dX11_meet_113 ?_
            refine ax_getf (v := .int 0) hC xm0 iX4 rfl 2 (by decide) (by decide +kernel) rfl rfl dX11_meet_116 ?_
            refine ax_iret hC hr hlocks dX11_meet_119 ?_
            exact ⟨rfl, rfl, fun q hq => (fr24 q (by omega)), hS25, hM27⟩
          · exact absurd c31 (by decide)
        · exact absurd c18 (by decide)

set_option maxRecDepth 100000 in
set_option maxHeartbeats 4000000 in
theorem c_X11_meet_3 (l : Launch) (D : va_G) (z : Nat → ClassId) (B : Heap) (lo hi : Nat) (h : Nat → Option va_E) (o : Nat) (on kp : Int32) (j k aF aG : Nat) (ndF ndG : Int32) (TF TG : PT) (pa : Nat → Option Nat) (nr : Int32) (W : Nat → Nat → Prop) (hO : ObS h o on kp) (hPs : PsS z h o pa) (hj : j < 16) (hk : k < 16) (hpj : pa j = some aF) (hpk : pa k = some aG) (hF : PrC z h aF ndF TF) (hG : PrC z h aG ndG TG) (hwF : wfP TF) (hwG : wfP TG) (hbF : o + 147 ≤ aF) (hbG : o + 147 ≤ aG) (hS : CmpS z h (o + 23)) (hM : MtC z h (o + 32) (o + 23) (some aF) (some aG) nr 0) (hMW : MeetW TF TG W) (hW0 : W (sN TF 0) (sN TG 0)) (hn1 : nr = 1 ∨ nr = 2) : Met l yX11_meet wsX11_meet rmX11_meet (KP D vwCl B lo hi h (ty6 z) [.ref o, .int (nI j), .int (nI k), .int nr, .int 3]) (KQi D vwCl B lo (ty6 z) (fun r hi' h' => r = -2 ∧ hi' = hi ∧ (∀ q, (q < o + 23 ∨ (o + 26 ≤ q ∧ q < o + 32) ∨ o + 40 ≤ q) → h' q = h q) ∧ CmpS z h' (o + 23) ∧ MtC z h' (o + 32) (o + 23) (some aF) (some aG) nr 0)) 0 0 (fun q => lo ≤ q) := by
  refine ax_met (by decide) rfl (Nat.le_of_ble_eq_true rfl) (L0 := [(0, .ref o), (1, .int (nI j)), (2, .int (nI k)), (3, .int nr), (4, .int 3)]) rfl ?_
  intro p e s m args below meth c hC hr hlocks hnm hargs
  have iX11 : ∀ w ∈ u_ws RX11 TX11 13, w ∈ wsX11_meet := by decide +kernel
  have iX4 : ∀ w ∈ u_ws RX4 TX4 15, w ∈ wsX11_meet := by decide +kernel
  obtain ⟨_, _, _, _, _, _, _, _, _, _, _, _, hMo, -⟩ := id hM
  refine ax_aload_n hC 0 dX11_meet_0 rfl rfl ?_
  refine ax_iload_n hC 1 dX11_meet_1 rfl rfl ?_
  refine ax_callVq (st := []) hC [.int (nI j)] hO rfl (c_X11_protocolAt l D z B lo _ h o on kp j pa hO hPs (by omega)) (cwV 1 hC.1.2.2.2.2 gX11_meet_X11_protocolAt rfl rfl rfl (by decide +kernel) ⟨Nat.le_of_ble_eq_true rfl, Nat.le_of_ble_eq_true rfl⟩) rfl rfl (Nat.le_of_ble_eq_true rfl) dX11_meet_2 ⟨Nat.le_of_ble_eq_true rfl, Nat.le_of_ble_eq_true rfl⟩ (fun r1 hi2 h3 hp4 => ?_)
  obtain ⟨er5, ei6, eh7⟩ := hp4
  subst er5
  replace ei6 := ei6.symm
  subst ei6
  replace eh7 := eh7.symm
  subst eh7
  refine ax_eqq (y := some aF) (hpj) ?_
  refine ax_astore hC [(5, .ref aF), (0, .ref o), (1, .int (nI j)), (2, .int (nI k)), (3, .int nr), (4, .int 3)] dX11_meet_5 (by decide) rfl ?_
  refine ax_aload_n hC 1 dX11_meet_7 rfl rfl ?_
  refine ax_iload_n hC 3 dX11_meet_8 rfl rfl ?_
  refine ax_callVq (st := []) hC [.int (nI k)] hO rfl (c_X11_protocolAt l D z B lo _ h o on kp k pa hO hPs (by omega)) (cwV 1 hC.1.2.2.2.2 gX11_meet_X11_protocolAt rfl rfl rfl (by decide +kernel) ⟨Nat.le_of_ble_eq_true rfl, Nat.le_of_ble_eq_true rfl⟩) rfl rfl (Nat.le_of_ble_eq_true rfl) dX11_meet_9 ⟨Nat.le_of_ble_eq_true rfl, Nat.le_of_ble_eq_true rfl⟩ (fun r8 hi9 h10 hp11 => ?_)
  obtain ⟨er12, ei13, eh14⟩ := hp11
  subst er12
  replace ei13 := ei13.symm
  subst ei13
  replace eh14 := eh14.symm
  subst eh14
  refine ax_eqq (y := some aG) (hpk) ?_
  refine ax_astore hC [(6, .ref aG), (5, .ref aF), (0, .ref o), (1, .int (nI j)), (2, .int (nI k)), (3, .int nr), (4, .int 3)] dX11_meet_12 (by decide) rfl ?_
  refine ax_aload hC 1 dX11_meet_14 rfl ?_
  refine ax_ifnull hC dX11_meet_16 ?_
  refine ax_aload hC 0 dX11_meet_19 rfl ?_
  refine ax_ifnull hC dX11_meet_21 ?_
  refine ax_iload_n hC 5 dX11_meet_24 rfl rfl ?_
  refine ax_iconst (v := 1) hC dX11_meet_25 (by decide) ?_
  refine ax_icmp_lt (tgt := 45) hC dX11_meet_26 (by decide) (fun c15 => ?_) (fun c15 => ?_)
  · exact absurd c15 (by rcases hn1 with rfl | rfl <;> decide)
  · refine ax_iload_n hC 5 dX11_meet_29 rfl rfl ?_
    refine ax_iconst (v := 2) hC dX11_meet_30 (by decide) ?_
    refine ax_icmp_gt (tgt := 45) hC dX11_meet_31 (by decide) (fun c16 => ?_) (fun c16 => ?_)
    · exact absurd c16 (by rcases hn1 with rfl | rfl <;> decide)
    · refine ax_iload hC 6 dX11_meet_34 rfl ?_
      refine ax_if_lt (tgt := 45) hC dX11_meet_36 (by decide) (fun c17 => ?_) (fun c17 => ?_)
      · exact absurd c17 (by decide)
      · refine ax_iload hC 6 dX11_meet_39 rfl ?_
        refine ax_iconst (v := 4) hC dX11_meet_41 (by decide) ?_
        refine ax_icmp_le (tgt := 47) hC dX11_meet_42 (by decide) (fun c18 => ?_) (fun c18 => ?_)
        · refine ax_aload_n hC 2 dX11_meet_47 rfl rfl ?_
          refine ax_getf (v := .ref (o + 32)) hC hO iX11 rfl 8 (by decide) (by decide +kernel) rfl rfl dX11_meet_48 ?_
          refine ax_aload hC 1 dX11_meet_51 rfl ?_
          refine ax_aload hC 0 dX11_meet_53 rfl ?_
          refine ax_iload_n hC 5 dX11_meet_55 rfl rfl ?_
          refine ax_callVi (st := []) hC [.ref aF, .ref aG, .int nr] hMo rfl (c_X4_explore l D z B lo _ h (o + 32) (o + 23) aF aG nr nr 0 (some aF) (some aG) TF TG W _ _ hM hF hG hwF hwG (by omega) (by omega) hMW hW0 hS (by omega) hn1) (cwV 3 hC.1.2.2.2.2 gX11_meet_X4_explore rfl rfl rfl (by decide +kernel) ⟨Nat.le_of_ble_eq_true rfl, Nat.le_of_ble_eq_true rfl⟩) rfl rfl (Nat.le_of_ble_eq_true rfl) dX11_meet_56 ⟨Nat.le_of_ble_eq_true rfl, Nat.le_of_ble_eq_true rfl⟩ (fun r19 hi20 h21 hp22 => ?_)
          obtain ⟨ei23, fr24, hS25, ov26, hM27, hr28, hc29⟩ := hp22
          replace ei23 := ei23.symm
          subst ei23
          obtain ⟨xfo, xja, xcl, xfe, xmo, _, _, _, _, _, _, _, xm0, -, -, -, -, -, -, -, -, -, hov, hjc⟩ := id hM27
          obtain ⟨rfl, rfl, rfl⟩ := hjc.resolve_left (fun q9 => by cases q9)
          have x30 : h21 o = some (.inr (13, [.ref (o + 1), .ref (o + 2), .int on, .ref (o + 3), .ref (o + 15), .ref (o + 21), .ref (o + 23), .ref (o + 26), .ref (o + 32), .ref (o + 40), .ref (o + 41), .ref (o + 94), .int kp])) := (fr24 _ (by omega)).trans hO
          obtain rfl : ov26 = 0 := (hc29 rfl rfl rfl)
          rw [if_pos rfl] at hr28
          subst hr28
          refine ax_if_ne (tgt := 65) hC dX11_meet_59 (by decide) (fun c31 => ?_) (fun c31 => ?_)
          · refine ax_iload hC 6 dX11_meet_65 rfl ?_
            refine ax_tableIn (tgt := 120) (off := 53) hC dX11_meet_67 (by decide) (by decide) (by decide) (by decide) ?_
            refine ax_aload_n hC 2 dX11_meet_120 rfl rfl ?_
            refine ax_getf (v := .ref (o + 32)) hC x30 iX11 rfl 8 (by decide) (by decide +kernel) rfl rfl dX11_meet_121 ?_
            refine ax_getf (v := .int (-2)) hC xm0 iX4 rfl 3 (by decide) (by decide +kernel) rfl rfl dX11_meet_124 ?_
            refine ax_iret hC hr hlocks dX11_meet_127 ?_
            exact ⟨rfl, rfl, fun q hq => (fr24 q (by omega)), hS25, hM27⟩
          · exact absurd c31 (by decide)
        · exact absurd c18 (by decide)
