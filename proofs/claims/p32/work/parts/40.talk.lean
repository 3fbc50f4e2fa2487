theorem isLt_w : ∀ k, k < 4 → isLt (nI (119 + k)) = 1 := by decide +kernel
theorem kbs_w : ∀ k, k < 4 → kbs (nI (119 + k)) = 6 := by decide +kernel
theorem kbs_w4 {k j : Nat} (hk : k ≤ 4) (hj : j < k) : kbs (nI (119 + j)) = 6 := kbs_w j (by omega)
theorem rds_eq {z : Nat → ClassId} {h : Nat → Option va_E} {rd tp ln a a' b b' : Nat} {G : RT} {Ar tx : Nat → Int32} (ha : a = a') (hb : b = b') (hR : RdS z h rd tp ln a b G Ar tx) : RdS z h rd tp ln a' b' G Ar tx := by subst ha; subst hb; exact hR
set_option maxRecDepth 100000 in
set_option maxHeartbeats 8000000 in
theorem c_X8_readTalk (nv : Nat) (hI : ∀ mv, mv < nv → TalkC mv) : TalkC nv := by
  intro w k0 T0 E0 d op v0 l D z B lo hi h rd tp ln ap0 b0 G0 Ar0 tx hR0 htp hok0 hLp0 htx0 hat0 hln hb0 hop
  refine ax_met (by decide) rfl (Nat.le_of_ble_eq_true rfl) (L0 := [(0, .ref rd), (1, .int v0), (2, .int (nI op)), (3, .int (nI d))]) rfl ?_
  intro p e s m args below meth c hC hr hlocks hnm hargs
  have iX8 : ∀ q ∈ u_ws RX8 TX8 5, q ∈ wsX8_readTalk := by decide +kernel
  have HN : ∀ (kk : Nat) (lk : Option Nat) (fi f2 v : Int32) (t ap b : Nat) (h1 : Nat → Option va_E) (G : RT) (Ar : Nat → Int32), (∀ q, (q < rd ∨ rd + 11 ≤ q) → h1 q = h q) → RdS z h1 rd tp ln ap b G Ar tx → b < 60 → ap < ln → t < 60 → kk < 6 → kbs (tx ap) = nI kk → ((lk = none ∧ fi = -1 ∧ f2 = nI b) ∨ ∃ u f0, lk = some u ∧ u < b ∧ v = nI u ∧ fi = nI f0 ∧ f0 < 60 ∧ f2 = fi) → (∀ (h2 : Nat → Option va_E) (G2 : RT) (Ar2 : Nat → Int32), (∀ q, (q < rd ∨ rd + 11 ≤ q) → h2 q = h q) → RdS z h2 rd tp ln (ap + 1) (b + 1) G2 Ar2 tx → HdR (nI kk) 0 (-1) v d b lk G Ar G2 Ar2 → Gx p l e (rmTk nv) s m args below meth c D vwCl B lo 8 (MQ below (KQi D vwCl B lo (ty6 z) (TkPost z h hi rd tp ln ap0 b0 nv w k0 T0 d E0 G0 Ar0 tx)) args s 0 0 (fun q => lo ≤ q)) hi h2 0 0 [(7, .int (nI b)), (6, .int (nI t)), (5, .int (nI b)), (4, .int f2), (3, .int (nI d)), (2, .int (nI op)), (1, .int v0), (0, .ref rd)] 56 []) → Gx p l e (rmTk nv) s m args below meth c D vwCl B lo 8 (MQ below (KQi D vwCl B lo (ty6 z) (TkPost z h hi rd tp ln ap0 b0 nv w k0 T0 d E0 G0 Ar0 tx)) args s 0 0 (fun q => lo ≤ q)) hi h1 0 0 [(6, .int (nI t)), (5, .int v), (4, .int fi), (3, .int (nI d)), (2, .int (nI op)), (1, .int v0), (0, .ref rd)] 9 [] := by
    intro kk lk fi f2 v t ap b h1 G Ar hfr hRX hb hat ht hkk hkb hlk hK
    rcases hlk with ⟨hl1, hl2, hl3⟩ | ⟨u, f0, hl1, hu, hv, hf, hf0, hf2⟩
    · subst hl1; subst hl2; subst hl3
      obtain ⟨y111000_0, y111000_1, y111000_2, y111000_3, y111000_4, y111000_5, y111000_6, y111000_7, y111000_8, y111000_9, y111000_10, y111000_11⟩ := id hRX
      refine ax_iload hC 0 dX8_readTalk_9 rfl ?_
      refine ax_bipush (v := 60) hC dX8_readTalk_11 (by decide) ?_
      refine ax_icmp_ge (tgt := 159) hC dX8_readTalk_13 (by decide) (fun c111001 => ?_) (fun c111001 => ?_)
      · exact absurd c111001 (nI_ge (a := t) (b := 60) (by omega) (by decide))
      · refine ax_aload_n hC 6 dX8_readTalk_16 rfl rfl ?_
        refine ax_iload hC 1 dX8_readTalk_17 rfl ?_
        refine ax_iload_n hC 3 dX8_readTalk_19 rfl rfl ?_
        refine ax_callVi (st := []) hC [.int v, .int (nI d)] y111000_0 rfl (c_X8_readHead_n l D z B lo _ h1 rd tp ln ap b G Ar tx v d kk hRX htp hb (by omega) hln hkk hkb) (cwV 2 hC.1.2.2.2.2 gX8_readTalk_X8_readHead rfl rfl rfl (by decide +kernel) ⟨show 2 + 1 ≤ 10 + 3 * nv by omega, show 8 + (7 + 11) + (47) ≤ 400 + 200 * nv by omega⟩) rfl rfl (Nat.le_of_ble_eq_true rfl) dX8_readTalk_20 ⟨Nat.le_of_ble_eq_true rfl, Nat.le_of_ble_eq_true rfl⟩ (fun r111002 hi111003 h111004 hp111005 => ?_)
        obtain ⟨er111006, ei111007, fr111008, hR111009⟩ := hp111005
        replace ei111007 := ei111007.symm
        subst ei111007
        subst er111006
        obtain ⟨y111010_0, y111010_1, y111010_2, y111010_3, y111010_4, y111010_5, y111010_6, y111010_7, y111010_8, y111010_9, y111010_10, y111010_11⟩ := id hR111009
        refine ax_istore hC [(7, .int (nI b)), (6, .int (nI t)), (5, .int v), (4, .int (-1)), (3, .int (nI d)), (2, .int (nI op)), (1, .int v0), (0, .ref rd)] dX8_readTalk_23 (by decide) rfl ?_
        refine ax_iload hC 0 dX8_readTalk_25 rfl ?_
        refine ax_if_ge (tgt := 32) hC dX8_readTalk_27 (by decide) (fun c111011 => ?_) (fun c111011 => ?_)
        · refine ax_iload hC 3 dX8_readTalk_32 rfl ?_
          refine ax_if_ge (tgt := 44) hC dX8_readTalk_34 (by decide) (fun c111012 => ?_) (fun c111012 => ?_)
          · exact absurd c111012 (by decide)
          · refine ax_iload hC 0 dX8_readTalk_37 rfl ?_
            refine ax_istore hC [(4, .int (nI b)), (7, .int (nI b)), (6, .int (nI t)), (5, .int v), (3, .int (nI d)), (2, .int (nI op)), (1, .int v0), (0, .ref rd)] dX8_readTalk_39 (by decide) rfl ?_
            refine ax_goto (tgt := 52) hC dX8_readTalk_41 (by decide) ?_
            refine ax_iload hC 1 dX8_readTalk_52 rfl ?_
            refine ax_istore hC [(5, .int (nI b)), (4, .int (nI b)), (7, .int (nI b)), (6, .int (nI t)), (3, .int (nI d)), (2, .int (nI op)), (1, .int v0), (0, .ref rd)] dX8_readTalk_54 (by decide) rfl ?_
            refine ax_locals [2, 3, 0, 1, 4, 5, 6, 7] (L' := [(7, .int (nI b)), (6, .int (nI t)), (5, .int (nI b)), (4, .int (nI b)), (3, .int (nI d)), (2, .int (nI op)), (1, .int v0), (0, .ref rd)]) rfl ?_
            exact hK _ _ _ (fun q hq => ((fr111008 q (by omega)).trans (hfr q hq))) hR111009 (head_none G Ar b d (nI kk) 0 (-1) v)
        · exact absurd (nI_pos' (by omega)) c111011
    · subst hl1; subst hf2; subst hv; subst hf
      obtain ⟨y112000_0, y112000_1, y112000_2, y112000_3, y112000_4, y112000_5, y112000_6, y112000_7, y112000_8, y112000_9, y112000_10, y112000_11⟩ := id hRX
      refine ax_iload hC 0 dX8_readTalk_9 rfl ?_
      refine ax_bipush (v := 60) hC dX8_readTalk_11 (by decide) ?_
      refine ax_icmp_ge (tgt := 159) hC dX8_readTalk_13 (by decide) (fun c112001 => ?_) (fun c112001 => ?_)
      · exact absurd c112001 (nI_ge (a := t) (b := 60) (by omega) (by decide))
      · refine ax_aload_n hC 6 dX8_readTalk_16 rfl rfl ?_
        refine ax_iload hC 1 dX8_readTalk_17 rfl ?_
        refine ax_iload_n hC 3 dX8_readTalk_19 rfl rfl ?_
        refine ax_callVi (st := []) hC [.int (nI u), .int (nI d)] y112000_0 rfl (c_X8_readHead_n l D z B lo _ h1 rd tp ln ap b G Ar tx (nI u) d kk hRX htp hb (by omega) hln hkk hkb) (cwV 2 hC.1.2.2.2.2 gX8_readTalk_X8_readHead rfl rfl rfl (by decide +kernel) ⟨show 2 + 1 ≤ 10 + 3 * nv by omega, show 8 + (7 + 11) + (47) ≤ 400 + 200 * nv by omega⟩) rfl rfl (Nat.le_of_ble_eq_true rfl) dX8_readTalk_20 ⟨Nat.le_of_ble_eq_true rfl, Nat.le_of_ble_eq_true rfl⟩ (fun r112002 hi112003 h112004 hp112005 => ?_)
        obtain ⟨er112006, ei112007, fr112008, hR112009⟩ := hp112005
        replace ei112007 := ei112007.symm
        subst ei112007
        subst er112006
        obtain ⟨y112010_0, y112010_1, y112010_2, y112010_3, y112010_4, y112010_5, y112010_6, y112010_7, y112010_8, y112010_9, y112010_10, y112010_11⟩ := id hR112009
        refine ax_istore hC [(7, .int (nI b)), (6, .int (nI t)), (5, .int (nI u)), (4, .int (nI f0)), (3, .int (nI d)), (2, .int (nI op)), (1, .int v0), (0, .ref rd)] dX8_readTalk_23 (by decide) rfl ?_
        refine ax_iload hC 0 dX8_readTalk_25 rfl ?_
        refine ax_if_ge (tgt := 32) hC dX8_readTalk_27 (by decide) (fun c112011 => ?_) (fun c112011 => ?_)
        · refine ax_iload hC 3 dX8_readTalk_32 rfl ?_
          refine ax_if_ge (tgt := 44) hC dX8_readTalk_34 (by decide) (fun c112012 => ?_) (fun c112012 => ?_)
          · refine ax_aload_n hC 7 dX8_readTalk_44 rfl rfl ?_
            refine ax_iload hC 2 dX8_readTalk_45 rfl ?_
            refine ax_iload hC 0 dX8_readTalk_47 rfl ?_
            refine ax_callVv (st := []) hC [.int (nI u), .int (nI b)] y112010_0 rfl (c_X8_link l D z B lo _ h112004 rd tp ln (ap + 1) (b + 1) (upd (pK (P6 G)) b (nI kk), upd (pS (P6 G)) b 0, upd (pLt (P6 G)) b 0, upd (pLb (P6 G)) b 0, upd (pDp (P6 G)) b (nI d), upd (pIn (P6 G)) b (-1), upd (pBr (P6 G)) (6 * b) (-1), pSt (P6 G)) (upd Ar b (nI u)) tx u b hR112009 htp (by omega)) (cwV 2 hC.1.2.2.2.2 gX8_readTalk_X8_link rfl rfl rfl (by decide +kernel) ⟨show 0 + 1 ≤ 10 + 3 * nv by omega, show 8 + (3 + 11) + (0) ≤ 400 + 200 * nv by omega⟩) rfl rfl (Nat.le_of_ble_eq_true rfl) dX8_readTalk_49 ⟨Nat.le_of_ble_eq_true rfl, Nat.le_of_ble_eq_true rfl⟩ (fun hi112013 h112014 hp112015 => ?_)
            obtain ⟨ei112016, fr112017, hR112018⟩ := hp112015
            replace ei112016 := ei112016.symm
            subst ei112016
            refine ax_iload hC 0 dX8_readTalk_52 rfl ?_
            refine ax_istore hC [(5, .int (nI b)), (7, .int (nI b)), (6, .int (nI t)), (4, .int (nI f0)), (3, .int (nI d)), (2, .int (nI op)), (1, .int v0), (0, .ref rd)] dX8_readTalk_54 (by decide) rfl ?_
            refine ax_locals [1, 2, 0, 3, 4, 5, 6, 7] (L' := [(7, .int (nI b)), (6, .int (nI t)), (5, .int (nI b)), (4, .int (nI f0)), (3, .int (nI d)), (2, .int (nI op)), (1, .int v0), (0, .ref rd)]) rfl ?_
            exact hK _ _ _ (fun q hq => ((fr112017 q (by omega)).trans ((fr112008 q (by omega)).trans (hfr q hq)))) hR112018 (head_some (head_none G Ar b d (nI kk) 0 (-1) (nI u)) hu)
          · exact absurd (nI_pos' (by omega)) c112012
        · exact absurd (nI_pos' (by omega)) c112011
  have HA : ∀ (lp : Nat) (pre : List Nat) (lk : Option Nat) (fi f2 v : Int32) (t ap b : Nat) (h1 : Nat → Option va_E) (G : RT) (Ar : Nat → Int32), (∀ q, (q < rd ∨ rd + 11 ≤ q) → h1 q = h q) → RdS z h1 rd tp ln ap b G Ar tx → b < 60 → ap < ln → t < 60 → kbs (tx ap) = 6 → lp < b → pre.length < 60 → LpF (pK (P6 G)) (pLt (P6 G)) Ar b (tx ap) lp pre v → (∃ x ∈ pre, ¬ pK (P6 G) x = 5) → ((lk = none ∧ fi = -1 ∧ f2 = nI b) ∨ ∃ u f0, lk = some u ∧ u < b ∧ v = nI u ∧ fi = nI f0 ∧ f0 < 60 ∧ f2 = fi) → (∀ (h2 : Nat → Option va_E) (G2 : RT) (Ar2 : Nat → Int32), (∀ q, (q < rd ∨ rd + 11 ≤ q) → h2 q = h q) → RdS z h2 rd tp ln (ap + 1) (b + 1) G2 Ar2 tx → HdR 6 (tx ap) (nI lp) v d b lk G Ar G2 Ar2 → Gx p l e (rmTk nv) s m args below meth c D vwCl B lo 8 (MQ below (KQi D vwCl B lo (ty6 z) (TkPost z h hi rd tp ln ap0 b0 nv w k0 T0 d E0 G0 Ar0 tx)) args s 0 0 (fun q => lo ≤ q)) hi h2 0 0 [(7, .int (nI b)), (6, .int (nI t)), (5, .int (nI b)), (4, .int f2), (3, .int (nI d)), (2, .int (nI op)), (1, .int v0), (0, .ref rd)] 56 []) → Gx p l e (rmTk nv) s m args below meth c D vwCl B lo 8 (MQ below (KQi D vwCl B lo (ty6 z) (TkPost z h hi rd tp ln ap0 b0 nv w k0 T0 d E0 G0 Ar0 tx)) args s 0 0 (fun q => lo ≤ q)) hi h1 0 0 [(6, .int (nI t)), (5, .int v), (4, .int fi), (3, .int (nI d)), (2, .int (nI op)), (1, .int v0), (0, .ref rd)] 9 [] := by
    intro lp pre lk fi f2 v t ap b h1 G Ar hfr hRX hb hat ht hkb hlp hlen hL hm hlk hK
    rcases hlk with ⟨hl1, hl2, hl3⟩ | ⟨u, f0, hl1, hu, hv, hf, hf0, hf2⟩
    · subst hl1; subst hl2; subst hl3
      obtain ⟨y113000_0, y113000_1, y113000_2, y113000_3, y113000_4, y113000_5, y113000_6, y113000_7, y113000_8, y113000_9, y113000_10, y113000_11⟩ := id hRX
      refine ax_iload hC 0 dX8_readTalk_9 rfl ?_
      refine ax_bipush (v := 60) hC dX8_readTalk_11 (by decide) ?_
      refine ax_icmp_ge (tgt := 159) hC dX8_readTalk_13 (by decide) (fun c113001 => ?_) (fun c113001 => ?_)
      · exact absurd c113001 (nI_ge (a := t) (b := 60) (by omega) (by decide))
      · refine ax_aload_n hC 6 dX8_readTalk_16 rfl rfl ?_
        refine ax_iload hC 1 dX8_readTalk_17 rfl ?_
        refine ax_iload_n hC 3 dX8_readTalk_19 rfl rfl ?_
        refine ax_callVi (st := []) hC [.int v, .int (nI d)] y113000_0 rfl (c_X8_readHead_a l D z B lo _ h1 rd tp ln ap b G Ar tx v d lp pre hRX htp hb (by omega) hln hkb hlp hlen hL hm) (cwV 2 hC.1.2.2.2.2 gX8_readTalk_X8_readHead rfl rfl rfl (by decide +kernel) ⟨show 2 + 1 ≤ 10 + 3 * nv by omega, show 8 + (7 + 11) + (47) ≤ 400 + 200 * nv by omega⟩) rfl rfl (Nat.le_of_ble_eq_true rfl) dX8_readTalk_20 ⟨Nat.le_of_ble_eq_true rfl, Nat.le_of_ble_eq_true rfl⟩ (fun r113002 hi113003 h113004 hp113005 => ?_)
        obtain ⟨er113006, ei113007, fr113008, hR113009⟩ := hp113005
        replace ei113007 := ei113007.symm
        subst ei113007
        subst er113006
        obtain ⟨y113010_0, y113010_1, y113010_2, y113010_3, y113010_4, y113010_5, y113010_6, y113010_7, y113010_8, y113010_9, y113010_10, y113010_11⟩ := id hR113009
        refine ax_istore hC [(7, .int (nI b)), (6, .int (nI t)), (5, .int v), (4, .int (-1)), (3, .int (nI d)), (2, .int (nI op)), (1, .int v0), (0, .ref rd)] dX8_readTalk_23 (by decide) rfl ?_
        refine ax_iload hC 0 dX8_readTalk_25 rfl ?_
        refine ax_if_ge (tgt := 32) hC dX8_readTalk_27 (by decide) (fun c113011 => ?_) (fun c113011 => ?_)
        · refine ax_iload hC 3 dX8_readTalk_32 rfl ?_
          refine ax_if_ge (tgt := 44) hC dX8_readTalk_34 (by decide) (fun c113012 => ?_) (fun c113012 => ?_)
          · exact absurd c113012 (by decide)
          · refine ax_iload hC 0 dX8_readTalk_37 rfl ?_
            refine ax_istore hC [(4, .int (nI b)), (7, .int (nI b)), (6, .int (nI t)), (5, .int v), (3, .int (nI d)), (2, .int (nI op)), (1, .int v0), (0, .ref rd)] dX8_readTalk_39 (by decide) rfl ?_
            refine ax_goto (tgt := 52) hC dX8_readTalk_41 (by decide) ?_
            refine ax_iload hC 1 dX8_readTalk_52 rfl ?_
            refine ax_istore hC [(5, .int (nI b)), (4, .int (nI b)), (7, .int (nI b)), (6, .int (nI t)), (3, .int (nI d)), (2, .int (nI op)), (1, .int v0), (0, .ref rd)] dX8_readTalk_54 (by decide) rfl ?_
            refine ax_locals [2, 3, 0, 1, 4, 5, 6, 7] (L' := [(7, .int (nI b)), (6, .int (nI t)), (5, .int (nI b)), (4, .int (nI b)), (3, .int (nI d)), (2, .int (nI op)), (1, .int v0), (0, .ref rd)]) rfl ?_
            exact hK _ _ _ (fun q hq => ((fr113008 q (by omega)).trans (hfr q hq))) hR113009 (head_none G Ar b d 6 (tx ap) (nI lp) v)
        · exact absurd (nI_pos' (by omega)) c113011
    · subst hl1; subst hf2; subst hv; subst hf
      obtain ⟨y114000_0, y114000_1, y114000_2, y114000_3, y114000_4, y114000_5, y114000_6, y114000_7, y114000_8, y114000_9, y114000_10, y114000_11⟩ := id hRX
      refine ax_iload hC 0 dX8_readTalk_9 rfl ?_
      refine ax_bipush (v := 60) hC dX8_readTalk_11 (by decide) ?_
      refine ax_icmp_ge (tgt := 159) hC dX8_readTalk_13 (by decide) (fun c114001 => ?_) (fun c114001 => ?_)
      · exact absurd c114001 (nI_ge (a := t) (b := 60) (by omega) (by decide))
      · refine ax_aload_n hC 6 dX8_readTalk_16 rfl rfl ?_
        refine ax_iload hC 1 dX8_readTalk_17 rfl ?_
        refine ax_iload_n hC 3 dX8_readTalk_19 rfl rfl ?_
        refine ax_callVi (st := []) hC [.int (nI u), .int (nI d)] y114000_0 rfl (c_X8_readHead_a l D z B lo _ h1 rd tp ln ap b G Ar tx (nI u) d lp pre hRX htp hb (by omega) hln hkb hlp hlen hL hm) (cwV 2 hC.1.2.2.2.2 gX8_readTalk_X8_readHead rfl rfl rfl (by decide +kernel) ⟨show 2 + 1 ≤ 10 + 3 * nv by omega, show 8 + (7 + 11) + (47) ≤ 400 + 200 * nv by omega⟩) rfl rfl (Nat.le_of_ble_eq_true rfl) dX8_readTalk_20 ⟨Nat.le_of_ble_eq_true rfl, Nat.le_of_ble_eq_true rfl⟩ (fun r114002 hi114003 h114004 hp114005 => ?_)
        obtain ⟨er114006, ei114007, fr114008, hR114009⟩ := hp114005
        replace ei114007 := ei114007.symm
        subst ei114007
        subst er114006
        obtain ⟨y114010_0, y114010_1, y114010_2, y114010_3, y114010_4, y114010_5, y114010_6, y114010_7, y114010_8, y114010_9, y114010_10, y114010_11⟩ := id hR114009
        refine ax_istore hC [(7, .int (nI b)), (6, .int (nI t)), (5, .int (nI u)), (4, .int (nI f0)), (3, .int (nI d)), (2, .int (nI op)), (1, .int v0), (0, .ref rd)] dX8_readTalk_23 (by decide) rfl ?_
        refine ax_iload hC 0 dX8_readTalk_25 rfl ?_
        refine ax_if_ge (tgt := 32) hC dX8_readTalk_27 (by decide) (fun c114011 => ?_) (fun c114011 => ?_)
        · refine ax_iload hC 3 dX8_readTalk_32 rfl ?_
          refine ax_if_ge (tgt := 44) hC dX8_readTalk_34 (by decide) (fun c114012 => ?_) (fun c114012 => ?_)
          · refine ax_aload_n hC 7 dX8_readTalk_44 rfl rfl ?_
            refine ax_iload hC 2 dX8_readTalk_45 rfl ?_
            refine ax_iload hC 0 dX8_readTalk_47 rfl ?_
            refine ax_callVv (st := []) hC [.int (nI u), .int (nI b)] y114010_0 rfl (c_X8_link l D z B lo _ h114004 rd tp ln (ap + 1) (b + 1) (upd (pK (P6 G)) b 6, upd (pS (P6 G)) b 0, upd (pLt (P6 G)) b (tx ap), upd (pLb (P6 G)) b 0, upd (pDp (P6 G)) b (nI d), upd (pIn (P6 G)) b (-1), upd (pBr (P6 G)) (6 * b) (nI lp), pSt (P6 G)) (upd Ar b (nI u)) tx u b hR114009 htp (by omega)) (cwV 2 hC.1.2.2.2.2 gX8_readTalk_X8_link rfl rfl rfl (by decide +kernel) ⟨show 0 + 1 ≤ 10 + 3 * nv by omega, show 8 + (3 + 11) + (0) ≤ 400 + 200 * nv by omega⟩) rfl rfl (Nat.le_of_ble_eq_true rfl) dX8_readTalk_49 ⟨Nat.le_of_ble_eq_true rfl, Nat.le_of_ble_eq_true rfl⟩ (fun hi114013 h114014 hp114015 => ?_)
            obtain ⟨ei114016, fr114017, hR114018⟩ := hp114015
            replace ei114016 := ei114016.symm
            subst ei114016
            refine ax_iload hC 0 dX8_readTalk_52 rfl ?_
            refine ax_istore hC [(5, .int (nI b)), (7, .int (nI b)), (6, .int (nI t)), (4, .int (nI f0)), (3, .int (nI d)), (2, .int (nI op)), (1, .int v0), (0, .ref rd)] dX8_readTalk_54 (by decide) rfl ?_
            refine ax_locals [1, 2, 0, 3, 4, 5, 6, 7] (L' := [(7, .int (nI b)), (6, .int (nI t)), (5, .int (nI b)), (4, .int (nI f0)), (3, .int (nI d)), (2, .int (nI op)), (1, .int v0), (0, .ref rd)]) rfl ?_
            exact hK _ _ _ (fun q hq => ((fr114017 q (by omega)).trans ((fr114008 q (by omega)).trans (hfr q hq)))) hR114018 (head_some (head_none G Ar b d 6 (tx ap) (nI lp) (nI u)) hu)
          · exact absurd (nI_pos' (by omega)) c114012
        · exact absurd (nI_pos' (by omega)) c114011
  have LP : ∀ (mv : Nat) (k : Nat) (T : Tre) (E : Nat → Nat) (t : Nat) (lk : Option Nat) (fi f2 v : Int32) (h1 : Nat → Option va_E) (ap b : Nat) (G : RT) (Ar : Nat → Int32), mv ≤ nv → (∀ q, (q < rd ∨ rd + 11 ≤ q) → h1 q = h q) → RdS z h1 rd tp ln ap b G Ar tx → okT mv k T → LpsOK G Ar b k E v → TxA tx ap (txt mv w k T) → ap + (txt mv w k T).length ≤ ln → b + siz mv w T ≤ 60 → t ≤ b → ((lk = none ∧ fi = -1 ∧ f2 = nI b) ∨ ∃ u f0, lk = some u ∧ u < b ∧ v = nI u ∧ fi = nI f0 ∧ f0 < 60 ∧ f2 = fi) → (∀ (h2 : Nat → Option va_E) (G2 : RT) (Ar2 : Nat → Int32), (∀ q, (q < rd ∨ rd + 11 ≤ q) → h2 q = h q) → RdS z h2 rd tp ln (ap + (txt mv w k T).length) (b + siz mv w T) G2 Ar2 tx → LowR lk b (P6 G) (P6 G2) → (∀ i, i < b → Ar2 i = Ar i) → AtT (P6 G2) mv w k T d b E → TkPost z h hi rd tp ln ap0 b0 nv w k0 T0 d E0 G0 Ar0 tx f2 hi h2) → Gx p l e (rmTk nv) s m args below meth c D vwCl B lo 8 (MQ below (KQi D vwCl B lo (ty6 z) (TkPost z h hi rd tp ln ap0 b0 nv w k0 T0 d E0 G0 Ar0 tx)) args s 0 0 (fun q => lo ≤ q)) hi h1 0 0 [(6, .int (nI t)), (5, .int v), (4, .int fi), (3, .int (nI d)), (2, .int (nI op)), (1, .int v0), (0, .ref rd)] 9 [] := by
    intro mv
    induction mv with
    | zero =>
      intro k T E t lk fi f2 v h1 ap b G Ar hmv hfr hRX hok hLp htx hat hb ht hlk hfin
      have hk4 : k ≤ 4 := hok.1
      have hs1 : siz 0 w T = 1 := rfl
      by_cases c1 : (T []).1 = 1
      · have hj := hok.2 c1
        rw [txt, if_pos c1] at htx hat
        rw [txt, if_pos c1, siz] at hfin
        simp only [AtT, if_pos c1] at hfin
        simp only [List.length_cons, List.length_nil] at hat
        obtain ⟨pre, hp1, hp2, hp3⟩ := hLp _ hj
        refine HA (E (T []).2) pre lk fi f2 v t ap b h1 G Ar hfr hRX (by omega) (by omega) (by omega) (by rw [htx.1]; exact kbs_w4 hk4 hj) hp1.tgt (by omega) (by rw [htx.1]; exact hp1) hp3 hlk (fun h2 G2 Ar2 hfr2 hR2 hd => ?_)
        obtain ⟨y115000_0, y115000_1, y115000_2, y115000_3, y115000_4, y115000_5, y115000_6, y115000_7, y115000_8, y115000_9, y115000_10, y115000_11⟩ := id hR2
        refine ax_aload_n hC 7 dX8_readTalk_56 rfl rfl ?_
        refine ax_getf (v := .ref (rd + 1)) hC y115000_0 iX8 rfl 0 (by decide) (by decide +kernel) rfl rfl dX8_readTalk_57 ?_
        refine ax_iload hC 0 dX8_readTalk_60 rfl ?_
        refine ax_callVp (st := []) hC [.int (nI b)] y115000_1 rfl (c_X7_kindOf l D z B lo _ h2 (rd + 1) _ ((60, (pK (P6 G2), pS (P6 G2), pLt (P6 G2), pLb (P6 G2), pDp (P6 G2), pIn (P6 G2), pBr (P6 G2), pSt (P6 G2))) : PT) (nI b) ⟨y115000_1, y115000_2, y115000_3, y115000_4, y115000_5, y115000_6, y115000_7, y115000_8, y115000_9⟩ (Nat.le_refl 60)) (cwV 1 hC.1.2.2.2.2 gX8_readTalk_X7_kindOf rfl rfl rfl (by decide +kernel) ⟨show 0 + 1 ≤ 10 + 3 * nv by omega, show 8 + (2 + 11) + (0) ≤ 400 + 200 * nv by omega⟩) rfl rfl (Nat.le_of_ble_eq_true rfl) dX8_readTalk_62 ⟨Nat.le_of_ble_eq_true rfl, Nat.le_of_ble_eq_true rfl⟩ (fun r115001 er115002 => ?_)
        subst er115002
        refine ax_eqi (y := (pK (P6 G2)) b) (rd_nat (n := 60) (j := b) (by omega) (by decide)) ?_
        refine ax_eqi (y := 6) (hd.1.1) ?_
        refine ax_tableIn (tgt := 108) (off := 43) hC dX8_readTalk_65 (by decide) (by decide) (by decide) (by decide) ?_
        refine ax_iload hC 3 dX8_readTalk_108 rfl ?_
        refine ax_iret hC hr hlocks dX8_readTalk_110 ?_
        exact hfin h2 G2 Ar2 hfr2 hR2 hd.2.2.2.2.2 hd.2.2.2.2.1 ⟨hd.1, hd.2.2.1⟩
      · rw [txt, if_neg c1] at htx hat
        rw [txt, if_neg c1, siz] at hfin
        simp only [AtT, if_neg c1] at hfin
        simp only [List.length_cons, List.length_nil] at hat
        refine HN 0 lk fi f2 v t ap b h1 G Ar hfr hRX (by omega) (by omega) (by omega) (by decide) (by rw [htx.1]; decide) hlk (fun h2 G2 Ar2 hfr2 hR2 hd => ?_)
        obtain ⟨y116000_0, y116000_1, y116000_2, y116000_3, y116000_4, y116000_5, y116000_6, y116000_7, y116000_8, y116000_9, y116000_10, y116000_11⟩ := id hR2
        refine ax_aload_n hC 7 dX8_readTalk_56 rfl rfl ?_
        refine ax_getf (v := .ref (rd + 1)) hC y116000_0 iX8 rfl 0 (by decide) (by decide +kernel) rfl rfl dX8_readTalk_57 ?_
        refine ax_iload hC 0 dX8_readTalk_60 rfl ?_
        refine ax_callVp (st := []) hC [.int (nI b)] y116000_1 rfl (c_X7_kindOf l D z B lo _ h2 (rd + 1) _ ((60, (pK (P6 G2), pS (P6 G2), pLt (P6 G2), pLb (P6 G2), pDp (P6 G2), pIn (P6 G2), pBr (P6 G2), pSt (P6 G2))) : PT) (nI b) ⟨y116000_1, y116000_2, y116000_3, y116000_4, y116000_5, y116000_6, y116000_7, y116000_8, y116000_9⟩ (Nat.le_refl 60)) (cwV 1 hC.1.2.2.2.2 gX8_readTalk_X7_kindOf rfl rfl rfl (by decide +kernel) ⟨show 0 + 1 ≤ 10 + 3 * nv by omega, show 8 + (2 + 11) + (0) ≤ 400 + 200 * nv by omega⟩) rfl rfl (Nat.le_of_ble_eq_true rfl) dX8_readTalk_62 ⟨Nat.le_of_ble_eq_true rfl, Nat.le_of_ble_eq_true rfl⟩ (fun r116001 er116002 => ?_)
        subst er116002
        refine ax_eqi (y := (pK (P6 G2)) b) (rd_nat (n := 60) (j := b) (by omega) (by decide)) ?_
        refine ax_eqi (y := 0) (hd.1.1) ?_
        refine ax_tableIn (tgt := 108) (off := 43) hC dX8_readTalk_65 (by decide) (by decide) (by decide) (by decide) ?_
        refine ax_iload hC 3 dX8_readTalk_108 rfl ?_
        refine ax_iret hC hr hlocks dX8_readTalk_110 ?_
        exact hfin h2 G2 Ar2 hfr2 hR2 hd.2.2.2.2.2 hd.2.2.2.2.1 hd.1
    | succ mv ih =>
      intro k T E t lk fi f2 v h1 ap b G Ar hmv hfr hRX hok hLp htx hat hb ht hlk hfin
      have hf0 : ∃ f0, f2 = nI f0 ∧ f0 < 60 := by
        have hsp := siz_pos (mv + 1) w T
        rcases hlk with ⟨-, -, q⟩ | ⟨u, f0, -, -, -, q1, q2, q3⟩
        · exact ⟨b, q, by omega⟩
        · exact ⟨f0, q3.trans q1, q2⟩
      obtain ⟨f0, hf2, hf60⟩ := hf0
      unfold okT at hok
      obtain ⟨hk4, o1, o2, o3, o4, o5, o6⟩ := hok
      by_cases c0 : (T []).1 = 0
      · rw [txt_0 c0] at htx hat
        rw [txt_0 c0, siz_0 c0] at hfin
        simp only [AtT_0 c0] at hfin
        rw [siz_0 c0] at hb
        simp only [List.length_cons, List.length_nil, List.length_append] at hat hfin
        refine HN 0 lk fi f2 v t ap b h1 G Ar hfr hRX (by omega) (by omega) (by omega) (by decide) (by rw [htx.1]; decide) hlk (fun h2 G2 Ar2 hfr2 hR2 hd => ?_)
        obtain ⟨y117000_0, y117000_1, y117000_2, y117000_3, y117000_4, y117000_5, y117000_6, y117000_7, y117000_8, y117000_9, y117000_10, y117000_11⟩ := id hR2
        refine ax_aload_n hC 7 dX8_readTalk_56 rfl rfl ?_
        refine ax_getf (v := .ref (rd + 1)) hC y117000_0 iX8 rfl 0 (by decide) (by decide +kernel) rfl rfl dX8_readTalk_57 ?_
        refine ax_iload hC 0 dX8_readTalk_60 rfl ?_
        refine ax_callVp (st := []) hC [.int (nI b)] y117000_1 rfl (c_X7_kindOf l D z B lo _ h2 (rd + 1) _ ((60, (pK (P6 G2), pS (P6 G2), pLt (P6 G2), pLb (P6 G2), pDp (P6 G2), pIn (P6 G2), pBr (P6 G2), pSt (P6 G2))) : PT) (nI b) ⟨y117000_1, y117000_2, y117000_3, y117000_4, y117000_5, y117000_6, y117000_7, y117000_8, y117000_9⟩ (Nat.le_refl 60)) (cwV 1 hC.1.2.2.2.2 gX8_readTalk_X7_kindOf rfl rfl rfl (by decide +kernel) ⟨show 0 + 1 ≤ 10 + 3 * nv by omega, show 8 + (2 + 11) + (0) ≤ 400 + 200 * nv by omega⟩) rfl rfl (Nat.le_of_ble_eq_true rfl) dX8_readTalk_62 ⟨Nat.le_of_ble_eq_true rfl, Nat.le_of_ble_eq_true rfl⟩ (fun r117001 er117002 => ?_)
        subst er117002
        refine ax_eqi (y := (pK (P6 G2)) b) (rd_nat (n := 60) (j := b) (by omega) (by decide)) ?_
        refine ax_eqi (y := 0) (hd.1.1) ?_
        refine ax_tableIn (tgt := 108) (off := 43) hC dX8_readTalk_65 (by decide) (by decide) (by decide) (by decide) ?_
        refine ax_iload hC 3 dX8_readTalk_108 rfl ?_
        refine ax_iret hC hr hlocks dX8_readTalk_110 ?_
        exact hfin h2 G2 Ar2 hfr2 hR2 hd.2.2.2.2.2 hd.2.2.2.2.1 hd.1
      by_cases c1 : (T []).1 = 1
      · rw [txt_1 c1] at htx hat
        rw [txt_1 c1, siz_1 c1] at hfin
        simp only [AtT_1 c1] at hfin
        rw [siz_1 c1] at hb
        simp only [List.length_cons, List.length_nil, List.length_append] at hat hfin
        have hj := o1 c1
        obtain ⟨pre, hp1, hp2, hp3⟩ := hLp _ hj
        refine HA (E (T []).2) pre lk fi f2 v t ap b h1 G Ar hfr hRX (by omega) (by omega) (by omega) (by rw [htx.1]; exact kbs_w4 hk4 hj) hp1.tgt (by omega) (by rw [htx.1]; exact hp1) hp3 hlk (fun h2 G2 Ar2 hfr2 hR2 hd => ?_)
        obtain ⟨y118000_0, y118000_1, y118000_2, y118000_3, y118000_4, y118000_5, y118000_6, y118000_7, y118000_8, y118000_9, y118000_10, y118000_11⟩ := id hR2
        refine ax_aload_n hC 7 dX8_readTalk_56 rfl rfl ?_
        refine ax_getf (v := .ref (rd + 1)) hC y118000_0 iX8 rfl 0 (by decide) (by decide +kernel) rfl rfl dX8_readTalk_57 ?_
        refine ax_iload hC 0 dX8_readTalk_60 rfl ?_
        refine ax_callVp (st := []) hC [.int (nI b)] y118000_1 rfl (c_X7_kindOf l D z B lo _ h2 (rd + 1) _ ((60, (pK (P6 G2), pS (P6 G2), pLt (P6 G2), pLb (P6 G2), pDp (P6 G2), pIn (P6 G2), pBr (P6 G2), pSt (P6 G2))) : PT) (nI b) ⟨y118000_1, y118000_2, y118000_3, y118000_4, y118000_5, y118000_6, y118000_7, y118000_8, y118000_9⟩ (Nat.le_refl 60)) (cwV 1 hC.1.2.2.2.2 gX8_readTalk_X7_kindOf rfl rfl rfl (by decide +kernel) ⟨show 0 + 1 ≤ 10 + 3 * nv by omega, show 8 + (2 + 11) + (0) ≤ 400 + 200 * nv by omega⟩) rfl rfl (Nat.le_of_ble_eq_true rfl) dX8_readTalk_62 ⟨Nat.le_of_ble_eq_true rfl, Nat.le_of_ble_eq_true rfl⟩ (fun r118001 er118002 => ?_)
        subst er118002
        refine ax_eqi (y := (pK (P6 G2)) b) (rd_nat (n := 60) (j := b) (by omega) (by decide)) ?_
        refine ax_eqi (y := 6) (hd.1.1) ?_
        refine ax_tableIn (tgt := 108) (off := 43) hC dX8_readTalk_65 (by decide) (by decide) (by decide) (by decide) ?_
        refine ax_iload hC 3 dX8_readTalk_108 rfl ?_
        refine ax_iret hC hr hlocks dX8_readTalk_110 ?_
        exact hfin h2 G2 Ar2 hfr2 hR2 hd.2.2.2.2.2 hd.2.2.2.2.1 ⟨hd.1, hd.2.2.1⟩
      by_cases c2 : (T []).1 = 2
      · rw [txt_2 c2] at htx hat
        rw [txt_2 c2, siz_2 c2] at hfin
        simp only [AtT_2 c2] at hfin
        rw [siz_2 c2] at hb
        simp only [List.length_cons, List.length_nil, List.length_append] at hat hfin
        obtain ⟨x0, x1, x2, x3⟩ := htx
        have hso := o2 (Or.inl c2)
        have hokc := o3 (Or.inl c2)
        rcases hso with hso | hso
        · rw [hso] at x1 hfin
          refine HN 1 lk fi f2 v t ap b h1 G Ar hfr hRX (by omega) (by omega) (by omega) (by decide) (by rw [x0]; decide) hlk (fun h2 G2 Ar2 hfr2 hR2 hd => ?_)
          obtain ⟨y119000_0, y119000_1, y119000_2, y119000_3, y119000_4, y119000_5, y119000_6, y119000_7, y119000_8, y119000_9, y119000_10, y119000_11⟩ := id hR2
          refine ax_aload_n hC 7 dX8_readTalk_56 rfl rfl ?_
          refine ax_getf (v := .ref (rd + 1)) hC y119000_0 iX8 rfl 0 (by decide) (by decide +kernel) rfl rfl dX8_readTalk_57 ?_
          refine ax_iload hC 0 dX8_readTalk_60 rfl ?_
          refine ax_callVp (st := []) hC [.int (nI b)] y119000_1 rfl (c_X7_kindOf l D z B lo _ h2 (rd + 1) _ ((60, (pK (P6 G2), pS (P6 G2), pLt (P6 G2), pLb (P6 G2), pDp (P6 G2), pIn (P6 G2), pBr (P6 G2), pSt (P6 G2))) : PT) (nI b) ⟨y119000_1, y119000_2, y119000_3, y119000_4, y119000_5, y119000_6, y119000_7, y119000_8, y119000_9⟩ (Nat.le_refl 60)) (cwV 1 hC.1.2.2.2.2 gX8_readTalk_X7_kindOf rfl rfl rfl (by decide +kernel) ⟨show 0 + 1 ≤ 10 + 3 * nv by omega, show 8 + (2 + 11) + (0) ≤ 400 + 200 * nv by omega⟩) rfl rfl (Nat.le_of_ble_eq_true rfl) dX8_readTalk_62 ⟨Nat.le_of_ble_eq_true rfl, Nat.le_of_ble_eq_true rfl⟩ (fun r119001 er119002 => ?_)
          subst er119002
          refine ax_eqi (y := (pK (P6 G2)) b) (rd_nat (n := 60) (j := b) (by omega) (by decide)) ?_
          refine ax_eqi (y := 1) (hd.1.1) ?_
          refine ax_tableIn (tgt := 140) (off := 75) hC dX8_readTalk_65 (by decide) (by decide) (by decide) (by decide) ?_
          refine ax_aload_n hC 7 dX8_readTalk_140 rfl rfl ?_
          refine ax_iload hC 0 dX8_readTalk_141 rfl ?_
          refine ax_iload_n hC 5 dX8_readTalk_143 rfl rfl ?_
          refine ax_iload_n hC 4 dX8_readTalk_144 rfl rfl ?_
          refine ax_callVi (st := []) hC [.int (nI b), .int (nI op), .int (nI d)] y119000_0 rfl (c_X8_readSort_105 l D z B lo _ h2 rd tp ln (ap + 1) (b + 1) G2 Ar2 tx b d op hR2 htp (by omega) x1 x2 (by omega) hln) (cwV 3 hC.1.2.2.2.2 gX8_readTalk_X8_readSort rfl rfl rfl (by decide +kernel) ⟨show 2 + 1 ≤ 10 + 3 * nv by omega, show 8 + (6 + 11) + (41) ≤ 400 + 200 * nv by omega⟩) rfl rfl (Nat.le_of_ble_eq_true rfl) dX8_readTalk_145 ⟨Nat.le_of_ble_eq_true rfl, Nat.le_of_ble_eq_true rfl⟩ (fun r119003 hi119004 h119005 hp119006 => ?_)
          obtain ⟨er119007, ei119008, fr119009, hR119010⟩ := hp119006
          replace ei119008 := ei119008.symm
          subst ei119008
          subst er119007
          refine ax_if_ne (tgt := 153) hC dX8_readTalk_148 (by decide) (fun c119011 => ?_) (fun c119011 => ?_)
          · refine ax_iinc (v := nI (t + 1)) hC 1 [(6, .int (nI (t + 1))), (7, .int (nI b)), (5, .int (nI b)), (4, .int f2), (3, .int (nI d)), (2, .int (nI op)), (1, .int v0), (0, .ref rd)] dX8_readTalk_153 rfl (nI_1 _) (by decide) rfl ?_
            refine ax_goto (tgt := 9) hC dX8_readTalk_156 (by decide) ?_
            refine ax_locals [0, 2, 3, 4, 5, 6, 7] (L' := [(6, .int (nI (t + 1))), (5, .int (nI b)), (4, .int f2), (3, .int (nI d)), (2, .int (nI op)), (1, .int v0), (0, .ref rd)]) rfl ?_
            exact ih k (tsub T 0) E (t + 1) (some b) f2 f2 (nI b) h119005 (ap + 1 + 2) (b + 1) (setS G2 b 105) _ (by omega) (fun q hq => ((fr119009 q (by omega)).trans (hfr2 q hq))) hR119010 hokc (hLp.push (fun i hi9 => hd.below i hi9) (fun q9 => absurd (hd.1.1.symm.trans q9) (by decide)) hd.2.2.2.1) x3 (by omega) (by omega) (by omega) (Or.inr ⟨b, f0, rfl, by omega, rfl, hf2, hf60, rfl⟩) (fun h4 G4 Ar4 hfr4 hR4 hlow har ha4 => by
            obtain ⟨g1, g2, g3⟩ := fin_23 (s := 105) hd hlow
            exact hfin h4 G4 Ar4 hfr4 (by rw [show ap + ((txt mv w k (tsub T 0)).length + 1 + 1 + 1) = ap + 1 + 2 + (txt mv w k (tsub T 0)).length by omega, show b + (1 + siz mv w (tsub T 0)) = b + 1 + siz mv w (tsub T 0) by omega]; exact hR4) g1 (fun i hi9 => (har i (by omega)).trans (hd.2.2.2.2.1 i hi9)) ⟨g2, g3, ha4⟩)
          · exact absurd c119011 (by decide)
        · rw [hso] at x1 hfin
          refine HN 1 lk fi f2 v t ap b h1 G Ar hfr hRX (by omega) (by omega) (by omega) (by decide) (by rw [x0]; decide) hlk (fun h2 G2 Ar2 hfr2 hR2 hd => ?_)
          obtain ⟨y120000_0, y120000_1, y120000_2, y120000_3, y120000_4, y120000_5, y120000_6, y120000_7, y120000_8, y120000_9, y120000_10, y120000_11⟩ := id hR2
          refine ax_aload_n hC 7 dX8_readTalk_56 rfl rfl ?_
          refine ax_getf (v := .ref (rd + 1)) hC y120000_0 iX8 rfl 0 (by decide) (by decide +kernel) rfl rfl dX8_readTalk_57 ?_
          refine ax_iload hC 0 dX8_readTalk_60 rfl ?_
          refine ax_callVp (st := []) hC [.int (nI b)] y120000_1 rfl (c_X7_kindOf l D z B lo _ h2 (rd + 1) _ ((60, (pK (P6 G2), pS (P6 G2), pLt (P6 G2), pLb (P6 G2), pDp (P6 G2), pIn (P6 G2), pBr (P6 G2), pSt (P6 G2))) : PT) (nI b) ⟨y120000_1, y120000_2, y120000_3, y120000_4, y120000_5, y120000_6, y120000_7, y120000_8, y120000_9⟩ (Nat.le_refl 60)) (cwV 1 hC.1.2.2.2.2 gX8_readTalk_X7_kindOf rfl rfl rfl (by decide +kernel) ⟨show 0 + 1 ≤ 10 + 3 * nv by omega, show 8 + (2 + 11) + (0) ≤ 400 + 200 * nv by omega⟩) rfl rfl (Nat.le_of_ble_eq_true rfl) dX8_readTalk_62 ⟨Nat.le_of_ble_eq_true rfl, Nat.le_of_ble_eq_true rfl⟩ (fun r120001 er120002 => ?_)
          subst er120002
          refine ax_eqi (y := (pK (P6 G2)) b) (rd_nat (n := 60) (j := b) (by omega) (by decide)) ?_
          refine ax_eqi (y := 1) (hd.1.1) ?_
          refine ax_tableIn (tgt := 140) (off := 75) hC dX8_readTalk_65 (by decide) (by decide) (by decide) (by decide) ?_
          refine ax_aload_n hC 7 dX8_readTalk_140 rfl rfl ?_
          refine ax_iload hC 0 dX8_readTalk_141 rfl ?_
          refine ax_iload_n hC 5 dX8_readTalk_143 rfl rfl ?_
          refine ax_iload_n hC 4 dX8_readTalk_144 rfl rfl ?_
          refine ax_callVi (st := []) hC [.int (nI b), .int (nI op), .int (nI d)] y120000_0 rfl (c_X8_readSort_98 l D z B lo _ h2 rd tp ln (ap + 1) (b + 1) G2 Ar2 tx b d op hR2 htp (by omega) x1 x2 (by omega) hln) (cwV 3 hC.1.2.2.2.2 gX8_readTalk_X8_readSort rfl rfl rfl (by decide +kernel) ⟨show 2 + 1 ≤ 10 + 3 * nv by omega, show 8 + (6 + 11) + (41) ≤ 400 + 200 * nv by omega⟩) rfl rfl (Nat.le_of_ble_eq_true rfl) dX8_readTalk_145 ⟨Nat.le_of_ble_eq_true rfl, Nat.le_of_ble_eq_true rfl⟩ (fun r120003 hi120004 h120005 hp120006 => ?_)
          obtain ⟨er120007, ei120008, fr120009, hR120010⟩ := hp120006
          replace ei120008 := ei120008.symm
          subst ei120008
          subst er120007
          refine ax_if_ne (tgt := 153) hC dX8_readTalk_148 (by decide) (fun c120011 => ?_) (fun c120011 => ?_)
          · refine ax_iinc (v := nI (t + 1)) hC 1 [(6, .int (nI (t + 1))), (7, .int (nI b)), (5, .int (nI b)), (4, .int f2), (3, .int (nI d)), (2, .int (nI op)), (1, .int v0), (0, .ref rd)] dX8_readTalk_153 rfl (nI_1 _) (by decide) rfl ?_
            refine ax_goto (tgt := 9) hC dX8_readTalk_156 (by decide) ?_
            refine ax_locals [0, 2, 3, 4, 5, 6, 7] (L' := [(6, .int (nI (t + 1))), (5, .int (nI b)), (4, .int f2), (3, .int (nI d)), (2, .int (nI op)), (1, .int v0), (0, .ref rd)]) rfl ?_
            exact ih k (tsub T 0) E (t + 1) (some b) f2 f2 (nI b) h120005 (ap + 1 + 2) (b + 1) (setS G2 b 98) _ (by omega) (fun q hq => ((fr120009 q (by omega)).trans (hfr2 q hq))) hR120010 hokc (hLp.push (fun i hi9 => hd.below i hi9) (fun q9 => absurd (hd.1.1.symm.trans q9) (by decide)) hd.2.2.2.1) x3 (by omega) (by omega) (by omega) (Or.inr ⟨b, f0, rfl, by omega, rfl, hf2, hf60, rfl⟩) (fun h4 G4 Ar4 hfr4 hR4 hlow har ha4 => by
            obtain ⟨g1, g2, g3⟩ := fin_23 (s := 98) hd hlow
            exact hfin h4 G4 Ar4 hfr4 (by rw [show ap + ((txt mv w k (tsub T 0)).length + 1 + 1 + 1) = ap + 1 + 2 + (txt mv w k (tsub T 0)).length by omega, show b + (1 + siz mv w (tsub T 0)) = b + 1 + siz mv w (tsub T 0) by omega]; exact hR4) g1 (fun i hi9 => (har i (by omega)).trans (hd.2.2.2.2.1 i hi9)) ⟨g2, g3, ha4⟩)
          · exact absurd c120011 (by decide)
      by_cases c3 : (T []).1 = 3
      · rw [txt_3 c3] at htx hat
        rw [txt_3 c3, siz_3 c3] at hfin
        simp only [AtT_3 c3] at hfin
        rw [siz_3 c3] at hb
        simp only [List.length_cons, List.length_nil, List.length_append] at hat hfin
        obtain ⟨x0, x1, x2, x3⟩ := htx
        have hso := o2 (Or.inr c3)
        have hokc := o3 (Or.inr (Or.inl c3))
        rcases hso with hso | hso
        · rw [hso] at x1 hfin
          refine HN 2 lk fi f2 v t ap b h1 G Ar hfr hRX (by omega) (by omega) (by omega) (by decide) (by rw [x0]; decide) hlk (fun h2 G2 Ar2 hfr2 hR2 hd => ?_)
          obtain ⟨y121000_0, y121000_1, y121000_2, y121000_3, y121000_4, y121000_5, y121000_6, y121000_7, y121000_8, y121000_9, y121000_10, y121000_11⟩ := id hR2
          refine ax_aload_n hC 7 dX8_readTalk_56 rfl rfl ?_
          refine ax_getf (v := .ref (rd + 1)) hC y121000_0 iX8 rfl 0 (by decide) (by decide +kernel) rfl rfl dX8_readTalk_57 ?_
          refine ax_iload hC 0 dX8_readTalk_60 rfl ?_
          refine ax_callVp (st := []) hC [.int (nI b)] y121000_1 rfl (c_X7_kindOf l D z B lo _ h2 (rd + 1) _ ((60, (pK (P6 G2), pS (P6 G2), pLt (P6 G2), pLb (P6 G2), pDp (P6 G2), pIn (P6 G2), pBr (P6 G2), pSt (P6 G2))) : PT) (nI b) ⟨y121000_1, y121000_2, y121000_3, y121000_4, y121000_5, y121000_6, y121000_7, y121000_8, y121000_9⟩ (Nat.le_refl 60)) (cwV 1 hC.1.2.2.2.2 gX8_readTalk_X7_kindOf rfl rfl rfl (by decide +kernel) ⟨show 0 + 1 ≤ 10 + 3 * nv by omega, show 8 + (2 + 11) + (0) ≤ 400 + 200 * nv by omega⟩) rfl rfl (Nat.le_of_ble_eq_true rfl) dX8_readTalk_62 ⟨Nat.le_of_ble_eq_true rfl, Nat.le_of_ble_eq_true rfl⟩ (fun r121001 er121002 => ?_)
          subst er121002
          refine ax_eqi (y := (pK (P6 G2)) b) (rd_nat (n := 60) (j := b) (by omega) (by decide)) ?_
          refine ax_eqi (y := 2) (hd.1.1) ?_
          refine ax_tableIn (tgt := 140) (off := 75) hC dX8_readTalk_65 (by decide) (by decide) (by decide) (by decide) ?_
          refine ax_aload_n hC 7 dX8_readTalk_140 rfl rfl ?_
          refine ax_iload hC 0 dX8_readTalk_141 rfl ?_
          refine ax_iload_n hC 5 dX8_readTalk_143 rfl rfl ?_
          refine ax_iload_n hC 4 dX8_readTalk_144 rfl rfl ?_
          refine ax_callVi (st := []) hC [.int (nI b), .int (nI op), .int (nI d)] y121000_0 rfl (c_X8_readSort_105 l D z B lo _ h2 rd tp ln (ap + 1) (b + 1) G2 Ar2 tx b d op hR2 htp (by omega) x1 x2 (by omega) hln) (cwV 3 hC.1.2.2.2.2 gX8_readTalk_X8_readSort rfl rfl rfl (by decide +kernel) ⟨show 2 + 1 ≤ 10 + 3 * nv by omega, show 8 + (6 + 11) + (41) ≤ 400 + 200 * nv by omega⟩) rfl rfl (Nat.le_of_ble_eq_true rfl) dX8_readTalk_145 ⟨Nat.le_of_ble_eq_true rfl, Nat.le_of_ble_eq_true rfl⟩ (fun r121003 hi121004 h121005 hp121006 => ?_)
          obtain ⟨er121007, ei121008, fr121009, hR121010⟩ := hp121006
          replace ei121008 := ei121008.symm
          subst ei121008
          subst er121007
          refine ax_if_ne (tgt := 153) hC dX8_readTalk_148 (by decide) (fun c121011 => ?_) (fun c121011 => ?_)
          · refine ax_iinc (v := nI (t + 1)) hC 1 [(6, .int (nI (t + 1))), (7, .int (nI b)), (5, .int (nI b)), (4, .int f2), (3, .int (nI d)), (2, .int (nI op)), (1, .int v0), (0, .ref rd)] dX8_readTalk_153 rfl (nI_1 _) (by decide) rfl ?_
            refine ax_goto (tgt := 9) hC dX8_readTalk_156 (by decide) ?_
            refine ax_locals [0, 2, 3, 4, 5, 6, 7] (L' := [(6, .int (nI (t + 1))), (5, .int (nI b)), (4, .int f2), (3, .int (nI d)), (2, .int (nI op)), (1, .int v0), (0, .ref rd)]) rfl ?_
            exact ih k (tsub T 0) E (t + 1) (some b) f2 f2 (nI b) h121005 (ap + 1 + 2) (b + 1) (setS G2 b 105) _ (by omega) (fun q hq => ((fr121009 q (by omega)).trans (hfr2 q hq))) hR121010 hokc (hLp.push (fun i hi9 => hd.below i hi9) (fun q9 => absurd (hd.1.1.symm.trans q9) (by decide)) hd.2.2.2.1) x3 (by omega) (by omega) (by omega) (Or.inr ⟨b, f0, rfl, by omega, rfl, hf2, hf60, rfl⟩) (fun h4 G4 Ar4 hfr4 hR4 hlow har ha4 => by
            obtain ⟨g1, g2, g3⟩ := fin_23 (s := 105) hd hlow
            exact hfin h4 G4 Ar4 hfr4 (by rw [show ap + ((txt mv w k (tsub T 0)).length + 1 + 1 + 1) = ap + 1 + 2 + (txt mv w k (tsub T 0)).length by omega, show b + (1 + siz mv w (tsub T 0)) = b + 1 + siz mv w (tsub T 0) by omega]; exact hR4) g1 (fun i hi9 => (har i (by omega)).trans (hd.2.2.2.2.1 i hi9)) ⟨g2, g3, ha4⟩)
          · exact absurd c121011 (by decide)
        · rw [hso] at x1 hfin
          refine HN 2 lk fi f2 v t ap b h1 G Ar hfr hRX (by omega) (by omega) (by omega) (by decide) (by rw [x0]; decide) hlk (fun h2 G2 Ar2 hfr2 hR2 hd => ?_)
          obtain ⟨y122000_0, y122000_1, y122000_2, y122000_3, y122000_4, y122000_5, y122000_6, y122000_7, y122000_8, y122000_9, y122000_10, y122000_11⟩ := id hR2
          refine ax_aload_n hC 7 dX8_readTalk_56 rfl rfl ?_
          refine ax_getf (v := .ref (rd + 1)) hC y122000_0 iX8 rfl 0 (by decide) (by decide +kernel) rfl rfl dX8_readTalk_57 ?_
          refine ax_iload hC 0 dX8_readTalk_60 rfl ?_
          refine ax_callVp (st := []) hC [.int (nI b)] y122000_1 rfl (c_X7_kindOf l D z B lo _ h2 (rd + 1) _ ((60, (pK (P6 G2), pS (P6 G2), pLt (P6 G2), pLb (P6 G2), pDp (P6 G2), pIn (P6 G2), pBr (P6 G2), pSt (P6 G2))) : PT) (nI b) ⟨y122000_1, y122000_2, y122000_3, y122000_4, y122000_5, y122000_6, y122000_7, y122000_8, y122000_9⟩ (Nat.le_refl 60)) (cwV 1 hC.1.2.2.2.2 gX8_readTalk_X7_kindOf rfl rfl rfl (by decide +kernel) ⟨show 0 + 1 ≤ 10 + 3 * nv by omega, show 8 + (2 + 11) + (0) ≤ 400 + 200 * nv by omega⟩) rfl rfl (Nat.le_of_ble_eq_true rfl) dX8_readTalk_62 ⟨Nat.le_of_ble_eq_true rfl, Nat.le_of_ble_eq_true rfl⟩ (fun r122001 er122002 => ?_)
          subst er122002
          refine ax_eqi (y := (pK (P6 G2)) b) (rd_nat (n := 60) (j := b) (by omega) (by decide)) ?_
          refine ax_eqi (y := 2) (hd.1.1) ?_
          refine ax_tableIn (tgt := 140) (off := 75) hC dX8_readTalk_65 (by decide) (by decide) (by decide) (by decide) ?_
          refine ax_aload_n hC 7 dX8_readTalk_140 rfl rfl ?_
          refine ax_iload hC 0 dX8_readTalk_141 rfl ?_
          refine ax_iload_n hC 5 dX8_readTalk_143 rfl rfl ?_
          refine ax_iload_n hC 4 dX8_readTalk_144 rfl rfl ?_
          refine ax_callVi (st := []) hC [.int (nI b), .int (nI op), .int (nI d)] y122000_0 rfl (c_X8_readSort_98 l D z B lo _ h2 rd tp ln (ap + 1) (b + 1) G2 Ar2 tx b d op hR2 htp (by omega) x1 x2 (by omega) hln) (cwV 3 hC.1.2.2.2.2 gX8_readTalk_X8_readSort rfl rfl rfl (by decide +kernel) ⟨show 2 + 1 ≤ 10 + 3 * nv by omega, show 8 + (6 + 11) + (41) ≤ 400 + 200 * nv by omega⟩) rfl rfl (Nat.le_of_ble_eq_true rfl) dX8_readTalk_145 ⟨Nat.le_of_ble_eq_true rfl, Nat.le_of_ble_eq_true rfl⟩ (fun r122003 hi122004 h122005 hp122006 => ?_)
          obtain ⟨er122007, ei122008, fr122009, hR122010⟩ := hp122006
          replace ei122008 := ei122008.symm
          subst ei122008
          subst er122007
          refine ax_if_ne (tgt := 153) hC dX8_readTalk_148 (by decide) (fun c122011 => ?_) (fun c122011 => ?_)
          · refine ax_iinc (v := nI (t + 1)) hC 1 [(6, .int (nI (t + 1))), (7, .int (nI b)), (5, .int (nI b)), (4, .int f2), (3, .int (nI d)), (2, .int (nI op)), (1, .int v0), (0, .ref rd)] dX8_readTalk_153 rfl (nI_1 _) (by decide) rfl ?_
            refine ax_goto (tgt := 9) hC dX8_readTalk_156 (by decide) ?_
            refine ax_locals [0, 2, 3, 4, 5, 6, 7] (L' := [(6, .int (nI (t + 1))), (5, .int (nI b)), (4, .int f2), (3, .int (nI d)), (2, .int (nI op)), (1, .int v0), (0, .ref rd)]) rfl ?_
            exact ih k (tsub T 0) E (t + 1) (some b) f2 f2 (nI b) h122005 (ap + 1 + 2) (b + 1) (setS G2 b 98) _ (by omega) (fun q hq => ((fr122009 q (by omega)).trans (hfr2 q hq))) hR122010 hokc (hLp.push (fun i hi9 => hd.below i hi9) (fun q9 => absurd (hd.1.1.symm.trans q9) (by decide)) hd.2.2.2.1) x3 (by omega) (by omega) (by omega) (Or.inr ⟨b, f0, rfl, by omega, rfl, hf2, hf60, rfl⟩) (fun h4 G4 Ar4 hfr4 hR4 hlow har ha4 => by
            obtain ⟨g1, g2, g3⟩ := fin_23 (s := 98) hd hlow
            exact hfin h4 G4 Ar4 hfr4 (by rw [show ap + ((txt mv w k (tsub T 0)).length + 1 + 1 + 1) = ap + 1 + 2 + (txt mv w k (tsub T 0)).length by omega, show b + (1 + siz mv w (tsub T 0)) = b + 1 + siz mv w (tsub T 0) by omega]; exact hR4) g1 (fun i hi9 => (har i (by omega)).trans (hd.2.2.2.2.1 i hi9)) ⟨g2, g3, ha4⟩)
          · exact absurd c122011 (by decide)
      by_cases c4 : (T []).1 = 4
      · rw [txt_4 c4] at htx hat
        rw [txt_4 c4, siz_4 c4] at hfin
        simp only [AtT_4 c4] at hfin
        rw [siz_4 c4] at hb
        simp only [List.length_cons, List.length_nil, List.length_append] at hat hfin
        obtain ⟨x0, x1, x2⟩ := htx
        obtain ⟨x3, x4, x5, x6⟩ := TxA_app.mp x2
        have hokc := o3 (Or.inr (Or.inr (Or.inl c4)))
        have hok2 := o5 (Or.inl c4)
        have hs0 := siz_pos mv w (tsub T 0)
        refine HN 1 lk fi f2 v t ap b h1 G Ar hfr hRX (by omega) (by omega) (by omega) (by decide) (by rw [x0]; decide) hlk (fun h2 G2 Ar2 hfr2 hR2 hd => ?_)
        obtain ⟨y123000_0, y123000_1, y123000_2, y123000_3, y123000_4, y123000_5, y123000_6, y123000_7, y123000_8, y123000_9, y123000_10, y123000_11⟩ := id hR2
        refine ax_aload_n hC 7 dX8_readTalk_56 rfl rfl ?_
        refine ax_getf (v := .ref (rd + 1)) hC y123000_0 iX8 rfl 0 (by decide) (by decide +kernel) rfl rfl dX8_readTalk_57 ?_
        refine ax_iload hC 0 dX8_readTalk_60 rfl ?_
        refine ax_callVp (st := []) hC [.int (nI b)] y123000_1 rfl (c_X7_kindOf l D z B lo _ h2 (rd + 1) _ ((60, (pK (P6 G2), pS (P6 G2), pLt (P6 G2), pLb (P6 G2), pDp (P6 G2), pIn (P6 G2), pBr (P6 G2), pSt (P6 G2))) : PT) (nI b) ⟨y123000_1, y123000_2, y123000_3, y123000_4, y123000_5, y123000_6, y123000_7, y123000_8, y123000_9⟩ (Nat.le_refl 60)) (cwV 1 hC.1.2.2.2.2 gX8_readTalk_X7_kindOf rfl rfl rfl (by decide +kernel) ⟨show 0 + 1 ≤ 10 + 3 * nv by omega, show 8 + (2 + 11) + (0) ≤ 400 + 200 * nv by omega⟩) rfl rfl (Nat.le_of_ble_eq_true rfl) dX8_readTalk_62 ⟨Nat.le_of_ble_eq_true rfl, Nat.le_of_ble_eq_true rfl⟩ (fun r123001 er123002 => ?_)
        subst er123002
        refine ax_eqi (y := (pK (P6 G2)) b) (rd_nat (n := 60) (j := b) (by omega) (by decide)) ?_
        refine ax_eqi (y := 1) (hd.1.1) ?_
        refine ax_tableIn (tgt := 140) (off := 75) hC dX8_readTalk_65 (by decide) (by decide) (by decide) (by decide) ?_
        refine ax_aload_n hC 7 dX8_readTalk_140 rfl rfl ?_
        refine ax_iload hC 0 dX8_readTalk_141 rfl ?_
        refine ax_iload_n hC 5 dX8_readTalk_143 rfl rfl ?_
        refine ax_iload_n hC 4 dX8_readTalk_144 rfl rfl ?_
        refine ax_callVi (st := []) hC [.int (nI b), .int (nI op), .int (nI d)] y123000_0 rfl (c_X8_readSort_b l D z B lo _ h2 rd tp ln (ap + 1) (b + 1) G2 Ar2 tx b d op mv (!w) (tsub T 2) E hR2 htp (hI mv (by omega)) (by omega) (by omega) (by omega) hok2 x1 x3 x4 x5 (by omega) hln) (cwV 3 hC.1.2.2.2.2 gX8_readTalk_X8_readSort rfl rfl rfl (by decide +kernel) ⟨show 12 + 3 * mv + 1 ≤ 10 + 3 * nv by omega, show 8 + (6 + 11) + (500 + 200 * mv) ≤ 400 + 200 * nv by omega⟩) rfl rfl (Nat.le_of_ble_eq_true rfl) dX8_readTalk_145 ⟨Nat.le_of_ble_eq_true rfl, Nat.le_of_ble_eq_true rfl⟩ (fun r123003 hi123004 h123005 hp123006 => ?_)
        obtain ⟨er123007, ei123008, fr123009, G123010, A123011, hR123012, he123013, ha123014, ht123015⟩ := hp123006
        replace ei123008 := ei123008.symm
        subst ei123008
        subst er123007
        refine ax_if_ne (tgt := 153) hC dX8_readTalk_148 (by decide) (fun c123016 => ?_) (fun c123016 => ?_)
        · refine ax_iinc (v := nI (t + 1)) hC 1 [(6, .int (nI (t + 1))), (7, .int (nI b)), (5, .int (nI b)), (4, .int f2), (3, .int (nI d)), (2, .int (nI op)), (1, .int v0), (0, .ref rd)] dX8_readTalk_153 rfl (nI_1 _) (by decide) rfl ?_
          refine ax_goto (tgt := 9) hC dX8_readTalk_156 (by decide) ?_
          refine ax_locals [0, 2, 3, 4, 5, 6, 7] (L' := [(6, .int (nI (t + 1))), (5, .int (nI b)), (4, .int f2), (3, .int (nI d)), (2, .int (nI op)), (1, .int v0), (0, .ref rd)]) rfl ?_
          have hLp123018 : LpsOK (setIn G123010 b (nI (b + 1))) A123011 (b + 1 + siz mv (!w) (tsub T 2)) k E (nI b) := (hLp.push (G' := setIn G123010 b (nI (b + 1))) (Ar' := A123011) (fun i hi9 => ⟨(he123013.1 i (by omega)).1.trans (hd.below i hi9).1, (he123013.1 i (by omega)).2.2.1.trans (hd.below i hi9).2.1, (ha123014 i (by omega)).trans (hd.below i hi9).2.2⟩) (fun q9 => absurd (((he123013.1 b (by omega)).1.trans hd.1.1).symm.trans q9) (by decide)) ((ha123014 b (by omega)).trans hd.2.2.2.1)).mono2 (fun _ _ => ⟨rfl, rfl, rfl⟩) (by omega)
          exact ih k (tsub T 0) E (t + 1) (some b) f2 f2 (nI b) h123005 (ap + 1 + 1 + (txt mv (!w) 0 (tsub T 2)).length + 2) (b + 1 + siz mv (!w) (tsub T 2)) (setIn G123010 b (nI (b + 1))) A123011 (by omega) (fun q hq => ((fr123009 q (by omega)).trans (hfr2 q hq))) hR123012 hokc hLp123018 x6 (by omega) (by omega) (by omega) (Or.inr ⟨b, f0, rfl, by omega, rfl, hf2, hf60, rfl⟩) (fun h4 G4 Ar4 hfr4 hR4 hlow har ha4 => by
            obtain ⟨g1, g2, g3, g4, g5⟩ := fin_45 hd he123013 ht123015 rfl hlow
            exact hfin h4 G4 Ar4 hfr4 (by rw [show ap + ((txt mv (!w) 0 (tsub T 2)).length + ((txt mv w k (tsub T 0)).length + 1 + 1) + 1 + 1) = ap + 1 + 1 + (txt mv (!w) 0 (tsub T 2)).length + 2 + (txt mv w k (tsub T 0)).length by omega, show b + (1 + siz mv (!w) (tsub T 2) + siz mv w (tsub T 0)) = b + 1 + siz mv (!w) (tsub T 2) + siz mv w (tsub T 0) by omega]; exact hR4) g1 (fun i hi9 => ((har i (by omega)).trans (ha123014 i (by omega))).trans (hd.2.2.2.2.1 i hi9)) ⟨g2, g3, g4, g5, ha4⟩)
        · exact absurd c123016 (by decide)
      by_cases c5 : (T []).1 = 5
      · rw [txt_5 c5] at htx hat
        rw [txt_5 c5, siz_5 c5] at hfin
        simp only [AtT_5 c5] at hfin
        rw [siz_5 c5] at hb
        simp only [List.length_cons, List.length_nil, List.length_append] at hat hfin
        obtain ⟨x0, x1, x2⟩ := htx
        obtain ⟨x3, x4, x5, x6⟩ := TxA_app.mp x2
        have hokc := o3 (Or.inr (Or.inr (Or.inr (Or.inl c5))))
        have hok2 := o5 (Or.inr c5)
        have hs0 := siz_pos mv w (tsub T 0)
        refine HN 2 lk fi f2 v t ap b h1 G Ar hfr hRX (by omega) (by omega) (by omega) (by decide) (by rw [x0]; decide) hlk (fun h2 G2 Ar2 hfr2 hR2 hd => ?_)
        obtain ⟨y124000_0, y124000_1, y124000_2, y124000_3, y124000_4, y124000_5, y124000_6, y124000_7, y124000_8, y124000_9, y124000_10, y124000_11⟩ := id hR2
        refine ax_aload_n hC 7 dX8_readTalk_56 rfl rfl ?_
        refine ax_getf (v := .ref (rd + 1)) hC y124000_0 iX8 rfl 0 (by decide) (by decide +kernel) rfl rfl dX8_readTalk_57 ?_
        refine ax_iload hC 0 dX8_readTalk_60 rfl ?_
        refine ax_callVp (st := []) hC [.int (nI b)] y124000_1 rfl (c_X7_kindOf l D z B lo _ h2 (rd + 1) _ ((60, (pK (P6 G2), pS (P6 G2), pLt (P6 G2), pLb (P6 G2), pDp (P6 G2), pIn (P6 G2), pBr (P6 G2), pSt (P6 G2))) : PT) (nI b) ⟨y124000_1, y124000_2, y124000_3, y124000_4, y124000_5, y124000_6, y124000_7, y124000_8, y124000_9⟩ (Nat.le_refl 60)) (cwV 1 hC.1.2.2.2.2 gX8_readTalk_X7_kindOf rfl rfl rfl (by decide +kernel) ⟨show 0 + 1 ≤ 10 + 3 * nv by omega, show 8 + (2 + 11) + (0) ≤ 400 + 200 * nv by omega⟩) rfl rfl (Nat.le_of_ble_eq_true rfl) dX8_readTalk_62 ⟨Nat.le_of_ble_eq_true rfl, Nat.le_of_ble_eq_true rfl⟩ (fun r124001 er124002 => ?_)
        subst er124002
        refine ax_eqi (y := (pK (P6 G2)) b) (rd_nat (n := 60) (j := b) (by omega) (by decide)) ?_
        refine ax_eqi (y := 2) (hd.1.1) ?_
        refine ax_tableIn (tgt := 140) (off := 75) hC dX8_readTalk_65 (by decide) (by decide) (by decide) (by decide) ?_
        refine ax_aload_n hC 7 dX8_readTalk_140 rfl rfl ?_
        refine ax_iload hC 0 dX8_readTalk_141 rfl ?_
        refine ax_iload_n hC 5 dX8_readTalk_143 rfl rfl ?_
        refine ax_iload_n hC 4 dX8_readTalk_144 rfl rfl ?_
        refine ax_callVi (st := []) hC [.int (nI b), .int (nI op), .int (nI d)] y124000_0 rfl (c_X8_readSort_b l D z B lo _ h2 rd tp ln (ap + 1) (b + 1) G2 Ar2 tx b d op mv w (tsub T 2) E hR2 htp (hI mv (by omega)) (by omega) (by omega) (by omega) hok2 x1 x3 x4 x5 (by omega) hln) (cwV 3 hC.1.2.2.2.2 gX8_readTalk_X8_readSort rfl rfl rfl (by decide +kernel) ⟨show 12 + 3 * mv + 1 ≤ 10 + 3 * nv by omega, show 8 + (6 + 11) + (500 + 200 * mv) ≤ 400 + 200 * nv by omega⟩) rfl rfl (Nat.le_of_ble_eq_true rfl) dX8_readTalk_145 ⟨Nat.le_of_ble_eq_true rfl, Nat.le_of_ble_eq_true rfl⟩ (fun r124003 hi124004 h124005 hp124006 => ?_)
        obtain ⟨er124007, ei124008, fr124009, G124010, A124011, hR124012, he124013, ha124014, ht124015⟩ := hp124006
        replace ei124008 := ei124008.symm
        subst ei124008
        subst er124007
        refine ax_if_ne (tgt := 153) hC dX8_readTalk_148 (by decide) (fun c124016 => ?_) (fun c124016 => ?_)
        · refine ax_iinc (v := nI (t + 1)) hC 1 [(6, .int (nI (t + 1))), (7, .int (nI b)), (5, .int (nI b)), (4, .int f2), (3, .int (nI d)), (2, .int (nI op)), (1, .int v0), (0, .ref rd)] dX8_readTalk_153 rfl (nI_1 _) (by decide) rfl ?_
          refine ax_goto (tgt := 9) hC dX8_readTalk_156 (by decide) ?_
          refine ax_locals [0, 2, 3, 4, 5, 6, 7] (L' := [(6, .int (nI (t + 1))), (5, .int (nI b)), (4, .int f2), (3, .int (nI d)), (2, .int (nI op)), (1, .int v0), (0, .ref rd)]) rfl ?_
          have hLp124018 : LpsOK (setIn G124010 b (nI (b + 1))) A124011 (b + 1 + siz mv w (tsub T 2)) k E (nI b) := (hLp.push (G' := setIn G124010 b (nI (b + 1))) (Ar' := A124011) (fun i hi9 => ⟨(he124013.1 i (by omega)).1.trans (hd.below i hi9).1, (he124013.1 i (by omega)).2.2.1.trans (hd.below i hi9).2.1, (ha124014 i (by omega)).trans (hd.below i hi9).2.2⟩) (fun q9 => absurd (((he124013.1 b (by omega)).1.trans hd.1.1).symm.trans q9) (by decide)) ((ha124014 b (by omega)).trans hd.2.2.2.1)).mono2 (fun _ _ => ⟨rfl, rfl, rfl⟩) (by omega)
          exact ih k (tsub T 0) E (t + 1) (some b) f2 f2 (nI b) h124005 (ap + 1 + 1 + (txt mv w 0 (tsub T 2)).length + 2) (b + 1 + siz mv w (tsub T 2)) (setIn G124010 b (nI (b + 1))) A124011 (by omega) (fun q hq => ((fr124009 q (by omega)).trans (hfr2 q hq))) hR124012 hokc hLp124018 x6 (by omega) (by omega) (by omega) (Or.inr ⟨b, f0, rfl, by omega, rfl, hf2, hf60, rfl⟩) (fun h4 G4 Ar4 hfr4 hR4 hlow har ha4 => by
            obtain ⟨g1, g2, g3, g4, g5⟩ := fin_45 hd he124013 ht124015 rfl hlow
            exact hfin h4 G4 Ar4 hfr4 (by rw [show ap + ((txt mv w 0 (tsub T 2)).length + ((txt mv w k (tsub T 0)).length + 1 + 1) + 1 + 1) = ap + 1 + 1 + (txt mv w 0 (tsub T 2)).length + 2 + (txt mv w k (tsub T 0)).length by omega, show b + (1 + siz mv w (tsub T 2) + siz mv w (tsub T 0)) = b + 1 + siz mv w (tsub T 2) + siz mv w (tsub T 0) by omega]; exact hR4) g1 (fun i hi9 => ((har i (by omega)).trans (ha124014 i (by omega))).trans (hd.2.2.2.2.1 i hi9)) ⟨g2, g3, g4, g5, ha4⟩)
        · exact absurd c124016 (by decide)
      by_cases c6 : (T []).1 = 6
      · rw [txt_6 c6] at htx hat
        rw [txt_6 c6, siz_6 c6] at hfin
        simp only [AtT_6 c6] at hfin
        rw [siz_6 c6] at hb
        simp only [List.length_cons, List.length_nil, List.length_append] at hat hfin
        have hok0 := o3 (Or.inr (Or.inr (Or.inr (Or.inr (Or.inl c6)))))
        have hok1 := o4 (Or.inl c6)
        refine HN 3 lk fi f2 v t ap b h1 G Ar hfr hRX (by omega) (by omega) (by omega) (by decide) (by rw [htx.1]; decide) hlk (fun h2 G2 Ar2 hfr2 hR2 hd => ?_)
        have hlp2 : LpsOK G2 Ar2 (b + 1) k E (nI b) := hLp.push (fun i hi9 => hd.below i hi9) (fun q9 => absurd (hd.1.1.symm.trans q9) (by decide)) hd.2.2.2.1
        obtain ⟨x0, x1, x2, x3, x4⟩ := htx
        obtain ⟨x5, x6, x7, x8, x9⟩ := TxA_app.mp x4
        obtain ⟨x10, x11⟩ := TxA_app.mp x9
        cases w
        · obtain ⟨y125000_0, y125000_1, y125000_2, y125000_3, y125000_4, y125000_5, y125000_6, y125000_7, y125000_8, y125000_9, y125000_10, y125000_11⟩ := id hR2
          refine ax_aload_n hC 7 dX8_readTalk_56 rfl rfl ?_
          refine ax_getf (v := .ref (rd + 1)) hC y125000_0 iX8 rfl 0 (by decide) (by decide +kernel) rfl rfl dX8_readTalk_57 ?_
          refine ax_iload hC 0 dX8_readTalk_60 rfl ?_
          refine ax_callVp (st := []) hC [.int (nI b)] y125000_1 rfl (c_X7_kindOf l D z B lo _ h2 (rd + 1) _ ((60, (pK (P6 G2), pS (P6 G2), pLt (P6 G2), pLb (P6 G2), pDp (P6 G2), pIn (P6 G2), pBr (P6 G2), pSt (P6 G2))) : PT) (nI b) ⟨y125000_1, y125000_2, y125000_3, y125000_4, y125000_5, y125000_6, y125000_7, y125000_8, y125000_9⟩ (Nat.le_refl 60)) (cwV 1 hC.1.2.2.2.2 gX8_readTalk_X7_kindOf rfl rfl rfl (by decide +kernel) ⟨show 0 + 1 ≤ 10 + 3 * nv by omega, show 8 + (2 + 11) + (0) ≤ 400 + 200 * nv by omega⟩) rfl rfl (Nat.le_of_ble_eq_true rfl) dX8_readTalk_62 ⟨Nat.le_of_ble_eq_true rfl, Nat.le_of_ble_eq_true rfl⟩ (fun r125001 er125002 => ?_)
          subst er125002
          refine ax_eqi (y := (pK (P6 G2)) b) (rd_nat (n := 60) (j := b) (by omega) (by decide)) ?_
          refine ax_eqi (y := 3) (hd.1.1) ?_
          refine ax_tableIn (tgt := 111) (off := 46) hC dX8_readTalk_65 (by decide) (by decide) (by decide) (by decide) ?_
          refine ax_aload_n hC 7 dX8_readTalk_111 rfl rfl ?_
          refine ax_iload hC 0 dX8_readTalk_112 rfl ?_
          refine ax_iload_n hC 5 dX8_readTalk_114 rfl rfl ?_
          refine ax_iload_n hC 4 dX8_readTalk_115 rfl rfl ?_
          refine ax_callVi (st := []) hC [.int (nI b), .int (nI op), .int (nI d)] y125000_0 rfl (c_X8_readBraces_2 l D z B lo _ h2 rd tp ln (ap + 1) (b + 1) G2 Ar2 tx b d op mv k false (tsub T 0) (tsub T 1) E hR2 htp (hI mv (by omega)) (by omega) (by simp at hb; omega) (by omega) hd.1.2.2.1 hlp2 hok0 hok1 x1 x2 x3 x5 x6 x7 x8 x10 x11.1 (by simp at hat; omega) hln) (cwV 3 hC.1.2.2.2.2 gX8_readTalk_X8_readBraces rfl rfl rfl (by decide +kernel) ⟨show 12 + 3 * mv + 1 ≤ 10 + 3 * nv by omega, show 8 + (7 + 11) + (500 + 200 * mv) ≤ 400 + 200 * nv by omega⟩) rfl rfl (Nat.le_of_ble_eq_true rfl) dX8_readTalk_116 ⟨Nat.le_of_ble_eq_true rfl, Nat.le_of_ble_eq_true rfl⟩ (fun r125003 hi125004 h125005 hp125006 => ?_)
          obtain ⟨er125007, ei125008, fr125009, G125010, A125011, hR125012, hb125013⟩ := hp125006
          replace ei125008 := ei125008.symm
          subst ei125008
          subst er125007
          refine ax_if_eq (tgt := 127) hC dX8_readTalk_119 (by decide) (fun c125014 => ?_) (fun c125014 => ?_)
          · exact absurd c125014 (by decide)
          · refine ax_iload hC 3 dX8_readTalk_122 rfl ?_
            refine ax_goto (tgt := 128) hC dX8_readTalk_124 (by decide) ?_
            refine ax_iret hC hr hlocks dX8_readTalk_128 ?_
            obtain ⟨g1, g2, g3⟩ := fin_67 hd hb125013
            obtain ⟨-, -, r3, r4, r5, r6, r7, -⟩ := hb125013
            exact hfin h125005 G125010 A125011 (fun q hq => ((fr125009 q (by omega)).trans (hfr2 q hq))) (by have q9 := hR125012; simp only [if_true, if_false, Bool.false_eq_true, List.length_cons, List.length_nil] at hfin ⊢; refine rds_eq ?_ ?_ q9 <;> omega) g1 g3 ⟨g2, r3, r6, r4, r7, fun q9 => by cases q9⟩
        · obtain ⟨y126000_0, y126000_1, y126000_2, y126000_3, y126000_4, y126000_5, y126000_6, y126000_7, y126000_8, y126000_9, y126000_10, y126000_11⟩ := id hR2
          refine ax_aload_n hC 7 dX8_readTalk_56 rfl rfl ?_
          refine ax_getf (v := .ref (rd + 1)) hC y126000_0 iX8 rfl 0 (by decide) (by decide +kernel) rfl rfl dX8_readTalk_57 ?_
          refine ax_iload hC 0 dX8_readTalk_60 rfl ?_
          refine ax_callVp (st := []) hC [.int (nI b)] y126000_1 rfl (c_X7_kindOf l D z B lo _ h2 (rd + 1) _ ((60, (pK (P6 G2), pS (P6 G2), pLt (P6 G2), pLb (P6 G2), pDp (P6 G2), pIn (P6 G2), pBr (P6 G2), pSt (P6 G2))) : PT) (nI b) ⟨y126000_1, y126000_2, y126000_3, y126000_4, y126000_5, y126000_6, y126000_7, y126000_8, y126000_9⟩ (Nat.le_refl 60)) (cwV 1 hC.1.2.2.2.2 gX8_readTalk_X7_kindOf rfl rfl rfl (by decide +kernel) ⟨show 0 + 1 ≤ 10 + 3 * nv by omega, show 8 + (2 + 11) + (0) ≤ 400 + 200 * nv by omega⟩) rfl rfl (Nat.le_of_ble_eq_true rfl) dX8_readTalk_62 ⟨Nat.le_of_ble_eq_true rfl, Nat.le_of_ble_eq_true rfl⟩ (fun r126001 er126002 => ?_)
          subst er126002
          refine ax_eqi (y := (pK (P6 G2)) b) (rd_nat (n := 60) (j := b) (by omega) (by decide)) ?_
          refine ax_eqi (y := 3) (hd.1.1) ?_
          refine ax_tableIn (tgt := 111) (off := 46) hC dX8_readTalk_65 (by decide) (by decide) (by decide) (by decide) ?_
          refine ax_aload_n hC 7 dX8_readTalk_111 rfl rfl ?_
          refine ax_iload hC 0 dX8_readTalk_112 rfl ?_
          refine ax_iload_n hC 5 dX8_readTalk_114 rfl rfl ?_
          refine ax_iload_n hC 4 dX8_readTalk_115 rfl rfl ?_
          refine ax_callVi (st := []) hC [.int (nI b), .int (nI op), .int (nI d)] y126000_0 rfl (c_X8_readBraces_3 l D z B lo _ h2 rd tp ln (ap + 1) (b + 1) G2 Ar2 tx b d op mv k true (tsub T 0) (tsub T 1) E hR2 htp (hI mv (by omega)) (by omega) (by simp at hb; omega) (by omega) hd.1.2.2.1 hlp2 hok0 hok1 x1 x2 x3 x5 x6 x7 x8 x10 x11.1 x11.2.1 x11.2.2.1 x11.2.2.2.1 x11.2.2.2.2.1 (by simp at hat; omega) hln) (cwV 3 hC.1.2.2.2.2 gX8_readTalk_X8_readBraces rfl rfl rfl (by decide +kernel) ⟨show 12 + 3 * mv + 1 ≤ 10 + 3 * nv by omega, show 8 + (7 + 11) + (500 + 200 * mv) ≤ 400 + 200 * nv by omega⟩) rfl rfl (Nat.le_of_ble_eq_true rfl) dX8_readTalk_116 ⟨Nat.le_of_ble_eq_true rfl, Nat.le_of_ble_eq_true rfl⟩ (fun r126003 hi126004 h126005 hp126006 => ?_)
          obtain ⟨er126007, ei126008, fr126009, G126010, A126011, hR126012, hb126013⟩ := hp126006
          replace ei126008 := ei126008.symm
          subst ei126008
          subst er126007
          refine ax_if_eq (tgt := 127) hC dX8_readTalk_119 (by decide) (fun c126014 => ?_) (fun c126014 => ?_)
          · exact absurd c126014 (by decide)
          · refine ax_iload hC 3 dX8_readTalk_122 rfl ?_
            refine ax_goto (tgt := 128) hC dX8_readTalk_124 (by decide) ?_
            refine ax_iret hC hr hlocks dX8_readTalk_128 ?_
            obtain ⟨g1, g2, g3⟩ := fin_67 hd hb126013
            obtain ⟨-, -, r3, r4, r5, r6, r7, -⟩ := hb126013
            exact hfin h126005 G126010 A126011 (fun q hq => ((fr126009 q (by omega)).trans (hfr2 q hq))) (by have q9 := hR126012; simp only [if_true, if_false, Bool.false_eq_true, List.length_cons, List.length_nil] at hfin ⊢; refine rds_eq ?_ ?_ q9 <;> omega) g1 g3 ⟨g2, r3, r6, r4, r7, fun q9 => r5 rfl⟩
      by_cases c7 : (T []).1 = 7
      · rw [txt_7 c7] at htx hat
        rw [txt_7 c7, siz_7 c7] at hfin
        simp only [AtT_7 c7] at hfin
        rw [siz_7 c7] at hb
        simp only [List.length_cons, List.length_nil, List.length_append] at hat hfin
        have hok0 := o3 (Or.inr (Or.inr (Or.inr (Or.inr (Or.inr c7)))))
        have hok1 := o4 (Or.inr c7)
        refine HN 4 lk fi f2 v t ap b h1 G Ar hfr hRX (by omega) (by omega) (by omega) (by decide) (by rw [htx.1]; decide) hlk (fun h2 G2 Ar2 hfr2 hR2 hd => ?_)
        have hlp2 : LpsOK G2 Ar2 (b + 1) k E (nI b) := hLp.push (fun i hi9 => hd.below i hi9) (fun q9 => absurd (hd.1.1.symm.trans q9) (by decide)) hd.2.2.2.1
        obtain ⟨x0, x1, x2, x3, x4⟩ := htx
        obtain ⟨x5, x6, x7, x8, x9⟩ := TxA_app.mp x4
        obtain ⟨x10, x11⟩ := TxA_app.mp x9
        cases w
        · obtain ⟨y127000_0, y127000_1, y127000_2, y127000_3, y127000_4, y127000_5, y127000_6, y127000_7, y127000_8, y127000_9, y127000_10, y127000_11⟩ := id hR2
          refine ax_aload_n hC 7 dX8_readTalk_56 rfl rfl ?_
          refine ax_getf (v := .ref (rd + 1)) hC y127000_0 iX8 rfl 0 (by decide) (by decide +kernel) rfl rfl dX8_readTalk_57 ?_
          refine ax_iload hC 0 dX8_readTalk_60 rfl ?_
          refine ax_callVp (st := []) hC [.int (nI b)] y127000_1 rfl (c_X7_kindOf l D z B lo _ h2 (rd + 1) _ ((60, (pK (P6 G2), pS (P6 G2), pLt (P6 G2), pLb (P6 G2), pDp (P6 G2), pIn (P6 G2), pBr (P6 G2), pSt (P6 G2))) : PT) (nI b) ⟨y127000_1, y127000_2, y127000_3, y127000_4, y127000_5, y127000_6, y127000_7, y127000_8, y127000_9⟩ (Nat.le_refl 60)) (cwV 1 hC.1.2.2.2.2 gX8_readTalk_X7_kindOf rfl rfl rfl (by decide +kernel) ⟨show 0 + 1 ≤ 10 + 3 * nv by omega, show 8 + (2 + 11) + (0) ≤ 400 + 200 * nv by omega⟩) rfl rfl (Nat.le_of_ble_eq_true rfl) dX8_readTalk_62 ⟨Nat.le_of_ble_eq_true rfl, Nat.le_of_ble_eq_true rfl⟩ (fun r127001 er127002 => ?_)
          subst er127002
          refine ax_eqi (y := (pK (P6 G2)) b) (rd_nat (n := 60) (j := b) (by omega) (by decide)) ?_
          refine ax_eqi (y := 4) (hd.1.1) ?_
          refine ax_tableIn (tgt := 111) (off := 46) hC dX8_readTalk_65 (by decide) (by decide) (by decide) (by decide) ?_
          refine ax_aload_n hC 7 dX8_readTalk_111 rfl rfl ?_
          refine ax_iload hC 0 dX8_readTalk_112 rfl ?_
          refine ax_iload_n hC 5 dX8_readTalk_114 rfl rfl ?_
          refine ax_iload_n hC 4 dX8_readTalk_115 rfl rfl ?_
          refine ax_callVi (st := []) hC [.int (nI b), .int (nI op), .int (nI d)] y127000_0 rfl (c_X8_readBraces_3 l D z B lo _ h2 rd tp ln (ap + 1) (b + 1) G2 Ar2 tx b d op mv k false (tsub T 0) (tsub T 1) E hR2 htp (hI mv (by omega)) (by omega) (by simp at hb; omega) (by omega) hd.1.2.2.1 hlp2 hok0 hok1 x1 x2 x3 x5 x6 x7 x8 x10 x11.1 x11.2.1 x11.2.2.1 x11.2.2.2.1 x11.2.2.2.2.1 (by simp at hat; omega) hln) (cwV 3 hC.1.2.2.2.2 gX8_readTalk_X8_readBraces rfl rfl rfl (by decide +kernel) ⟨show 12 + 3 * mv + 1 ≤ 10 + 3 * nv by omega, show 8 + (7 + 11) + (500 + 200 * mv) ≤ 400 + 200 * nv by omega⟩) rfl rfl (Nat.le_of_ble_eq_true rfl) dX8_readTalk_116 ⟨Nat.le_of_ble_eq_true rfl, Nat.le_of_ble_eq_true rfl⟩ (fun r127003 hi127004 h127005 hp127006 => ?_)
          obtain ⟨er127007, ei127008, fr127009, G127010, A127011, hR127012, hb127013⟩ := hp127006
          replace ei127008 := ei127008.symm
          subst ei127008
          subst er127007
          refine ax_if_eq (tgt := 127) hC dX8_readTalk_119 (by decide) (fun c127014 => ?_) (fun c127014 => ?_)
          · exact absurd c127014 (by decide)
          · refine ax_iload hC 3 dX8_readTalk_122 rfl ?_
            refine ax_goto (tgt := 128) hC dX8_readTalk_124 (by decide) ?_
            refine ax_iret hC hr hlocks dX8_readTalk_128 ?_
            obtain ⟨g1, g2, g3⟩ := fin_67 hd hb127013
            obtain ⟨-, -, r3, r4, r5, r6, r7, -⟩ := hb127013
            exact hfin h127005 G127010 A127011 (fun q hq => ((fr127009 q (by omega)).trans (hfr2 q hq))) (by have q9 := hR127012; simp only [if_true, if_false, Bool.false_eq_true, List.length_cons, List.length_nil] at hfin ⊢; refine rds_eq ?_ ?_ q9 <;> omega) g1 g3 ⟨g2, r3, r6, r4, r7, fun q9 => r5 rfl⟩
        · obtain ⟨y128000_0, y128000_1, y128000_2, y128000_3, y128000_4, y128000_5, y128000_6, y128000_7, y128000_8, y128000_9, y128000_10, y128000_11⟩ := id hR2
          refine ax_aload_n hC 7 dX8_readTalk_56 rfl rfl ?_
          refine ax_getf (v := .ref (rd + 1)) hC y128000_0 iX8 rfl 0 (by decide) (by decide +kernel) rfl rfl dX8_readTalk_57 ?_
          refine ax_iload hC 0 dX8_readTalk_60 rfl ?_
          refine ax_callVp (st := []) hC [.int (nI b)] y128000_1 rfl (c_X7_kindOf l D z B lo _ h2 (rd + 1) _ ((60, (pK (P6 G2), pS (P6 G2), pLt (P6 G2), pLb (P6 G2), pDp (P6 G2), pIn (P6 G2), pBr (P6 G2), pSt (P6 G2))) : PT) (nI b) ⟨y128000_1, y128000_2, y128000_3, y128000_4, y128000_5, y128000_6, y128000_7, y128000_8, y128000_9⟩ (Nat.le_refl 60)) (cwV 1 hC.1.2.2.2.2 gX8_readTalk_X7_kindOf rfl rfl rfl (by decide +kernel) ⟨show 0 + 1 ≤ 10 + 3 * nv by omega, show 8 + (2 + 11) + (0) ≤ 400 + 200 * nv by omega⟩) rfl rfl (Nat.le_of_ble_eq_true rfl) dX8_readTalk_62 ⟨Nat.le_of_ble_eq_true rfl, Nat.le_of_ble_eq_true rfl⟩ (fun r128001 er128002 => ?_)
          subst er128002
          refine ax_eqi (y := (pK (P6 G2)) b) (rd_nat (n := 60) (j := b) (by omega) (by decide)) ?_
          refine ax_eqi (y := 4) (hd.1.1) ?_
          refine ax_tableIn (tgt := 111) (off := 46) hC dX8_readTalk_65 (by decide) (by decide) (by decide) (by decide) ?_
          refine ax_aload_n hC 7 dX8_readTalk_111 rfl rfl ?_
          refine ax_iload hC 0 dX8_readTalk_112 rfl ?_
          refine ax_iload_n hC 5 dX8_readTalk_114 rfl rfl ?_
          refine ax_iload_n hC 4 dX8_readTalk_115 rfl rfl ?_
          refine ax_callVi (st := []) hC [.int (nI b), .int (nI op), .int (nI d)] y128000_0 rfl (c_X8_readBraces_2 l D z B lo _ h2 rd tp ln (ap + 1) (b + 1) G2 Ar2 tx b d op mv k true (tsub T 0) (tsub T 1) E hR2 htp (hI mv (by omega)) (by omega) (by simp at hb; omega) (by omega) hd.1.2.2.1 hlp2 hok0 hok1 x1 x2 x3 x5 x6 x7 x8 x10 x11.1 (by simp at hat; omega) hln) (cwV 3 hC.1.2.2.2.2 gX8_readTalk_X8_readBraces rfl rfl rfl (by decide +kernel) ⟨show 12 + 3 * mv + 1 ≤ 10 + 3 * nv by omega, show 8 + (7 + 11) + (500 + 200 * mv) ≤ 400 + 200 * nv by omega⟩) rfl rfl (Nat.le_of_ble_eq_true rfl) dX8_readTalk_116 ⟨Nat.le_of_ble_eq_true rfl, Nat.le_of_ble_eq_true rfl⟩ (fun r128003 hi128004 h128005 hp128006 => ?_)
          obtain ⟨er128007, ei128008, fr128009, G128010, A128011, hR128012, hb128013⟩ := hp128006
          replace ei128008 := ei128008.symm
          subst ei128008
          subst er128007
          refine ax_if_eq (tgt := 127) hC dX8_readTalk_119 (by decide) (fun c128014 => ?_) (fun c128014 => ?_)
          · exact absurd c128014 (by decide)
          · refine ax_iload hC 3 dX8_readTalk_122 rfl ?_
            refine ax_goto (tgt := 128) hC dX8_readTalk_124 (by decide) ?_
            refine ax_iret hC hr hlocks dX8_readTalk_128 ?_
            obtain ⟨g1, g2, g3⟩ := fin_67 hd hb128013
            obtain ⟨-, -, r3, r4, r5, r6, r7, -⟩ := hb128013
            exact hfin h128005 G128010 A128011 (fun q hq => ((fr128009 q (by omega)).trans (hfr2 q hq))) (by have q9 := hR128012; simp only [if_true, if_false, Bool.false_eq_true, List.length_cons, List.length_nil] at hfin ⊢; refine rds_eq ?_ ?_ q9 <;> omega) g1 g3 ⟨g2, r3, r6, r4, r7, fun q9 => by cases q9⟩
      have c8 : 8 ≤ (T []).1 := by omega
      rw [txt_8 c8] at htx hat
      rw [txt_8 c8, siz_8 c8] at hfin
      simp only [AtT_8 c8] at hfin
      rw [siz_8 c8] at hb
      simp only [List.length_cons, List.length_nil, List.length_append] at hat hfin
      obtain ⟨hk3, hokc⟩ := o6 c8
      obtain ⟨x0, x1, x2, x3, x4, x5, x6⟩ := htx
      have hs0 := siz_pos mv w (tsub T 0)
      refine HN 5 lk fi f2 v t ap b h1 G Ar hfr hRX (by omega) (by omega) (by omega) (by decide) (by rw [x0]; decide) hlk (fun h2 G2 Ar2 hfr2 hR2 hd => ?_)
      obtain ⟨y129000_0, y129000_1, y129000_2, y129000_3, y129000_4, y129000_5, y129000_6, y129000_7, y129000_8, y129000_9, y129000_10, y129000_11⟩ := id hR2
      refine ax_aload_n hC 7 dX8_readTalk_56 rfl rfl ?_
      refine ax_getf (v := .ref (rd + 1)) hC y129000_0 iX8 rfl 0 (by decide) (by decide +kernel) rfl rfl dX8_readTalk_57 ?_
      refine ax_iload hC 0 dX8_readTalk_60 rfl ?_
      refine ax_callVp (st := []) hC [.int (nI b)] y129000_1 rfl (c_X7_kindOf l D z B lo _ h2 (rd + 1) _ ((60, (pK (P6 G2), pS (P6 G2), pLt (P6 G2), pLb (P6 G2), pDp (P6 G2), pIn (P6 G2), pBr (P6 G2), pSt (P6 G2))) : PT) (nI b) ⟨y129000_1, y129000_2, y129000_3, y129000_4, y129000_5, y129000_6, y129000_7, y129000_8, y129000_9⟩ (Nat.le_refl 60)) (cwV 1 hC.1.2.2.2.2 gX8_readTalk_X7_kindOf rfl rfl rfl (by decide +kernel) ⟨show 0 + 1 ≤ 10 + 3 * nv by omega, show 8 + (2 + 11) + (0) ≤ 400 + 200 * nv by omega⟩) rfl rfl (Nat.le_of_ble_eq_true rfl) dX8_readTalk_62 ⟨Nat.le_of_ble_eq_true rfl, Nat.le_of_ble_eq_true rfl⟩ (fun r129001 er129002 => ?_)
      subst er129002
      refine ax_eqi (y := (pK (P6 G2)) b) (rd_nat (n := 60) (j := b) (by omega) (by decide)) ?_
      refine ax_eqi (y := 5) (hd.1.1) ?_
      refine ax_tableIn (tgt := 129) (off := 64) hC dX8_readTalk_65 (by decide) (by decide) (by decide) (by decide) ?_
      refine ax_aload_n hC 7 dX8_readTalk_129 rfl rfl ?_
      refine ax_iload hC 0 dX8_readTalk_130 rfl ?_
      refine ax_callVi (st := []) hC [.int (nI b)] y129000_0 rfl (c_X8_readLoop l D z B lo _ h2 rd tp ln (ap + 1) (b + 1) G2 Ar2 tx b hR2 htp (by omega) (by omega) hln (by rw [x1]; exact isLt_w k hk3) x2) (cwV 1 hC.1.2.2.2.2 gX8_readTalk_X8_readLoop rfl rfl rfl (by decide +kernel) ⟨show 2 + 1 ≤ 10 + 3 * nv by omega, show 8 + (2 + 11) + (41) ≤ 400 + 200 * nv by omega⟩) rfl rfl (Nat.le_of_ble_eq_true rfl) dX8_readTalk_132 ⟨Nat.le_of_ble_eq_true rfl, Nat.le_of_ble_eq_true rfl⟩ (fun r129003 hi129004 h129005 hp129006 => ?_)
      obtain ⟨er129007, ei129008, fr129009, hR129010⟩ := hp129006
      replace ei129008 := ei129008.symm
      subst ei129008
      subst er129007
      refine ax_if_ne (tgt := 153) hC dX8_readTalk_135 (by decide) (fun c129011 => ?_) (fun c129011 => ?_)
      · refine ax_iinc (v := nI (t + 1)) hC 1 [(6, .int (nI (t + 1))), (7, .int (nI b)), (5, .int (nI b)), (4, .int f2), (3, .int (nI d)), (2, .int (nI op)), (1, .int v0), (0, .ref rd)] dX8_readTalk_153 rfl (nI_1 _) (by decide) rfl ?_
        refine ax_goto (tgt := 9) hC dX8_readTalk_156 (by decide) ?_
        refine ax_locals [0, 2, 3, 4, 5, 6, 7] (L' := [(6, .int (nI (t + 1))), (5, .int (nI b)), (4, .int f2), (3, .int (nI d)), (2, .int (nI op)), (1, .int v0), (0, .ref rd)]) rfl ?_
        have hfr3 : (∀ q, (q < rd ∨ rd + 11 ≤ q) → h129005 q = h q) := (fun q hq => ((fr129009 q (by omega)).trans (hfr2 q hq)))
        have hR3 : RdS z h129005 rd tp ln (ap + 1 + 2) (b + 1) (setLt G2 b (tx (ap + 1))) Ar2 tx := hR129010
        by_cases cx : (T []).2 = 0
        · simp only [if_pos cx] at x3 x4 hfin
          refine HN 1 (some b) f2 f2 (nI b) (t + 1) (ap + 1 + 2) (b + 1) h129005 (setLt G2 b (tx (ap + 1))) Ar2 hfr3 hR3 (by omega) (by omega) (by omega) (by decide) (by rw [x3]; decide) (Or.inr ⟨b, f0, rfl, by omega, rfl, hf2, hf60, rfl⟩) (fun h4 G4 Ar4 hfr4 hR4 hd4 => ?_)
          obtain ⟨y130000_0, y130000_1, y130000_2, y130000_3, y130000_4, y130000_5, y130000_6, y130000_7, y130000_8, y130000_9, y130000_10, y130000_11⟩ := id hR4
          refine ax_aload_n hC 7 dX8_readTalk_56 rfl rfl ?_
          refine ax_getf (v := .ref (rd + 1)) hC y130000_0 iX8 rfl 0 (by decide) (by decide +kernel) rfl rfl dX8_readTalk_57 ?_
          refine ax_iload hC 0 dX8_readTalk_60 rfl ?_
          refine ax_callVp (st := []) hC [.int (nI (b + 1))] y130000_1 rfl (c_X7_kindOf l D z B lo _ h4 (rd + 1) _ ((60, (pK (P6 G4), pS (P6 G4), pLt (P6 G4), pLb (P6 G4), pDp (P6 G4), pIn (P6 G4), pBr (P6 G4), pSt (P6 G4))) : PT) (nI (b + 1)) ⟨y130000_1, y130000_2, y130000_3, y130000_4, y130000_5, y130000_6, y130000_7, y130000_8, y130000_9⟩ (Nat.le_refl 60)) (cwV 1 hC.1.2.2.2.2 gX8_readTalk_X7_kindOf rfl rfl rfl (by decide +kernel) ⟨show 0 + 1 ≤ 10 + 3 * nv by omega, show 8 + (2 + 11) + (0) ≤ 400 + 200 * nv by omega⟩) rfl rfl (Nat.le_of_ble_eq_true rfl) dX8_readTalk_62 ⟨Nat.le_of_ble_eq_true rfl, Nat.le_of_ble_eq_true rfl⟩ (fun r130001 er130002 => ?_)
          subst er130002
          refine ax_eqi (y := (pK (P6 G4)) (b + 1)) (rd_nat (n := 60) (j := (b + 1)) (by omega) (by decide)) ?_
          refine ax_eqi (y := 1) (hd4.1.1) ?_
          refine ax_tableIn (tgt := 140) (off := 75) hC dX8_readTalk_65 (by decide) (by decide) (by decide) (by decide) ?_
          refine ax_aload_n hC 7 dX8_readTalk_140 rfl rfl ?_
          refine ax_iload hC 0 dX8_readTalk_141 rfl ?_
          refine ax_iload_n hC 5 dX8_readTalk_143 rfl rfl ?_
          refine ax_iload_n hC 4 dX8_readTalk_144 rfl rfl ?_
          refine ax_callVi (st := []) hC [.int (nI (b + 1)), .int (nI op), .int (nI d)] y130000_0 rfl (c_X8_readSort_105 l D z B lo _ h4 rd tp ln (ap + 1 + 2 + 1) (b + 2) G4 Ar4 tx (b + 1) d op hR4 htp (by omega) x4 x5 (by omega) hln) (cwV 3 hC.1.2.2.2.2 gX8_readTalk_X8_readSort rfl rfl rfl (by decide +kernel) ⟨show 2 + 1 ≤ 10 + 3 * nv by omega, show 8 + (6 + 11) + (41) ≤ 400 + 200 * nv by omega⟩) rfl rfl (Nat.le_of_ble_eq_true rfl) dX8_readTalk_145 ⟨Nat.le_of_ble_eq_true rfl, Nat.le_of_ble_eq_true rfl⟩ (fun r130003 hi130004 h130005 hp130006 => ?_)
          obtain ⟨er130007, ei130008, fr130009, hR130010⟩ := hp130006
          replace ei130008 := ei130008.symm
          subst ei130008
          subst er130007
          refine ax_if_ne (tgt := 153) hC dX8_readTalk_148 (by decide) (fun c130011 => ?_) (fun c130011 => ?_)
          · refine ax_iinc (v := nI ((t + 1) + 1)) hC 1 [(6, .int (nI ((t + 1) + 1))), (7, .int (nI (b + 1))), (5, .int (nI (b + 1))), (4, .int f2), (3, .int (nI d)), (2, .int (nI op)), (1, .int v0), (0, .ref rd)] dX8_readTalk_153 rfl (nI_1 _) (by decide) rfl ?_
            refine ax_goto (tgt := 9) hC dX8_readTalk_156 (by decide) ?_
            refine ax_locals [0, 2, 3, 4, 5, 6, 7] (L' := [(6, .int (nI ((t + 1) + 1))), (5, .int (nI (b + 1))), (4, .int f2), (3, .int (nI d)), (2, .int (nI op)), (1, .int v0), (0, .ref rd)]) rfl ?_
            exact ih (k + 1) (tsub T 0) (fun j => if j = k then b else E j) (t + 2) (some (b + 1)) f2 f2 (nI (b + 1)) h130005 (ap + 1 + 2 + 1 + 2) (b + 2) (setS G4 (b + 1) 105) Ar4 (by omega) (fun q hq => ((fr130009 q (by omega)).trans (hfr4 q hq))) hR130010 hokc (hLp.loop (G' := setS G4 (b + 1) 105) (Ar' := Ar4) hk3 (fun i hi9 => ⟨((hd4.below i (by omega)).1).trans (hd.below i hi9).1, ((hd4.below i (by omega)).2.1).trans ((upd_ne _ _ _ (by omega)).trans (hd.below i hi9).2.1), ((hd4.below i (by omega)).2.2).trans (hd.below i hi9).2.2⟩) ((hd4.below b (by omega)).1.trans hd.1.1) ((hd4.below b (by omega)).2.1.trans ((upd_self _ _ _).trans x1)) ((hd4.below b (by omega)).2.2.trans hd.2.2.2.1) (fun q9 => absurd (hd4.1.1.symm.trans q9) (by decide)) hd4.2.2.2.1) x6 (by omega) (by omega) (by omega) (Or.inr ⟨b + 1, f0, rfl, by omega, rfl, hf2, hf60, rfl⟩) (fun h6 G6 Ar6 hfr6 hR6 hlow har ha6 => by
            obtain ⟨g1, g2, g3, g4, g5⟩ := fin_8 (s := 105) hd hd4 hlow
            exact hfin h6 G6 Ar6 hfr6 (by rw [show ap + ((txt mv w (k + 1) (tsub T 0)).length + 1 + 1 + 1 + 1 + 1 + 1) = ap + 1 + 2 + 1 + 2 + (txt mv w (k + 1) (tsub T 0)).length by omega, show b + (2 + siz mv w (tsub T 0)) = b + 2 + siz mv w (tsub T 0) by omega]; exact hR6) g1 (fun i hi9 => ((har i (by omega)).trans (hd4.2.2.2.2.1 i (by omega))).trans (hd.2.2.2.2.1 i hi9)) ⟨g2, g3, g4, g5, ha6⟩)
          · exact absurd c130011 (by decide)
        · simp only [if_neg cx] at x3 x4 hfin
          refine HN 2 (some b) f2 f2 (nI b) (t + 1) (ap + 1 + 2) (b + 1) h129005 (setLt G2 b (tx (ap + 1))) Ar2 hfr3 hR3 (by omega) (by omega) (by omega) (by decide) (by rw [x3]; decide) (Or.inr ⟨b, f0, rfl, by omega, rfl, hf2, hf60, rfl⟩) (fun h4 G4 Ar4 hfr4 hR4 hd4 => ?_)
          obtain ⟨y131000_0, y131000_1, y131000_2, y131000_3, y131000_4, y131000_5, y131000_6, y131000_7, y131000_8, y131000_9, y131000_10, y131000_11⟩ := id hR4
          refine ax_aload_n hC 7 dX8_readTalk_56 rfl rfl ?_
          refine ax_getf (v := .ref (rd + 1)) hC y131000_0 iX8 rfl 0 (by decide) (by decide +kernel) rfl rfl dX8_readTalk_57 ?_
          refine ax_iload hC 0 dX8_readTalk_60 rfl ?_
          refine ax_callVp (st := []) hC [.int (nI (b + 1))] y131000_1 rfl (c_X7_kindOf l D z B lo _ h4 (rd + 1) _ ((60, (pK (P6 G4), pS (P6 G4), pLt (P6 G4), pLb (P6 G4), pDp (P6 G4), pIn (P6 G4), pBr (P6 G4), pSt (P6 G4))) : PT) (nI (b + 1)) ⟨y131000_1, y131000_2, y131000_3, y131000_4, y131000_5, y131000_6, y131000_7, y131000_8, y131000_9⟩ (Nat.le_refl 60)) (cwV 1 hC.1.2.2.2.2 gX8_readTalk_X7_kindOf rfl rfl rfl (by decide +kernel) ⟨show 0 + 1 ≤ 10 + 3 * nv by omega, show 8 + (2 + 11) + (0) ≤ 400 + 200 * nv by omega⟩) rfl rfl (Nat.le_of_ble_eq_true rfl) dX8_readTalk_62 ⟨Nat.le_of_ble_eq_true rfl, Nat.le_of_ble_eq_true rfl⟩ (fun r131001 er131002 => ?_)
          subst er131002
          refine ax_eqi (y := (pK (P6 G4)) (b + 1)) (rd_nat (n := 60) (j := (b + 1)) (by omega) (by decide)) ?_
          refine ax_eqi (y := 2) (hd4.1.1) ?_
          refine ax_tableIn (tgt := 140) (off := 75) hC dX8_readTalk_65 (by decide) (by decide) (by decide) (by decide) ?_
          refine ax_aload_n hC 7 dX8_readTalk_140 rfl rfl ?_
          refine ax_iload hC 0 dX8_readTalk_141 rfl ?_
          refine ax_iload_n hC 5 dX8_readTalk_143 rfl rfl ?_
          refine ax_iload_n hC 4 dX8_readTalk_144 rfl rfl ?_
          refine ax_callVi (st := []) hC [.int (nI (b + 1)), .int (nI op), .int (nI d)] y131000_0 rfl (c_X8_readSort_98 l D z B lo _ h4 rd tp ln (ap + 1 + 2 + 1) (b + 2) G4 Ar4 tx (b + 1) d op hR4 htp (by omega) x4 x5 (by omega) hln) (cwV 3 hC.1.2.2.2.2 gX8_readTalk_X8_readSort rfl rfl rfl (by decide +kernel) ⟨show 2 + 1 ≤ 10 + 3 * nv by omega, show 8 + (6 + 11) + (41) ≤ 400 + 200 * nv by omega⟩) rfl rfl (Nat.le_of_ble_eq_true rfl) dX8_readTalk_145 ⟨Nat.le_of_ble_eq_true rfl, Nat.le_of_ble_eq_true rfl⟩ (fun r131003 hi131004 h131005 hp131006 => ?_)
          obtain ⟨er131007, ei131008, fr131009, hR131010⟩ := hp131006
          replace ei131008 := ei131008.symm
          subst ei131008
          subst er131007
          refine ax_if_ne (tgt := 153) hC dX8_readTalk_148 (by decide) (fun c131011 => ?_) (fun c131011 => ?_)
          · refine ax_iinc (v := nI ((t + 1) + 1)) hC 1 [(6, .int (nI ((t + 1) + 1))), (7, .int (nI (b + 1))), (5, .int (nI (b + 1))), (4, .int f2), (3, .int (nI d)), (2, .int (nI op)), (1, .int v0), (0, .ref rd)] dX8_readTalk_153 rfl (nI_1 _) (by decide) rfl ?_
            refine ax_goto (tgt := 9) hC dX8_readTalk_156 (by decide) ?_
            refine ax_locals [0, 2, 3, 4, 5, 6, 7] (L' := [(6, .int (nI ((t + 1) + 1))), (5, .int (nI (b + 1))), (4, .int f2), (3, .int (nI d)), (2, .int (nI op)), (1, .int v0), (0, .ref rd)]) rfl ?_
            exact ih (k + 1) (tsub T 0) (fun j => if j = k then b else E j) (t + 2) (some (b + 1)) f2 f2 (nI (b + 1)) h131005 (ap + 1 + 2 + 1 + 2) (b + 2) (setS G4 (b + 1) 98) Ar4 (by omega) (fun q hq => ((fr131009 q (by omega)).trans (hfr4 q hq))) hR131010 hokc (hLp.loop (G' := setS G4 (b + 1) 98) (Ar' := Ar4) hk3 (fun i hi9 => ⟨((hd4.below i (by omega)).1).trans (hd.below i hi9).1, ((hd4.below i (by omega)).2.1).trans ((upd_ne _ _ _ (by omega)).trans (hd.below i hi9).2.1), ((hd4.below i (by omega)).2.2).trans (hd.below i hi9).2.2⟩) ((hd4.below b (by omega)).1.trans hd.1.1) ((hd4.below b (by omega)).2.1.trans ((upd_self _ _ _).trans x1)) ((hd4.below b (by omega)).2.2.trans hd.2.2.2.1) (fun q9 => absurd (hd4.1.1.symm.trans q9) (by decide)) hd4.2.2.2.1) x6 (by omega) (by omega) (by omega) (Or.inr ⟨b + 1, f0, rfl, by omega, rfl, hf2, hf60, rfl⟩) (fun h6 G6 Ar6 hfr6 hR6 hlow har ha6 => by
            obtain ⟨g1, g2, g3, g4, g5⟩ := fin_8 (s := 98) hd hd4 hlow
            exact hfin h6 G6 Ar6 hfr6 (by rw [show ap + ((txt mv w (k + 1) (tsub T 0)).length + 1 + 1 + 1 + 1 + 1 + 1) = ap + 1 + 2 + 1 + 2 + (txt mv w (k + 1) (tsub T 0)).length by omega, show b + (2 + siz mv w (tsub T 0)) = b + 2 + siz mv w (tsub T 0) by omega]; exact hR6) g1 (fun i hi9 => ((har i (by omega)).trans (hd4.2.2.2.2.1 i (by omega))).trans (hd.2.2.2.2.1 i hi9)) ⟨g2, g3, g4, g5, ha6⟩)
          · exact absurd c131011 (by decide)
      · exact absurd c129011 (by decide)
  obtain ⟨y132000_0, y132000_1, y132000_2, y132000_3, y132000_4, y132000_5, y132000_6, y132000_7, y132000_8, y132000_9, y132000_10, y132000_11⟩ := id hR0
  refine ax_iconst (v := (-1)) hC dX8_readTalk_0 (by decide) ?_
  refine ax_istore hC [(4, .int (-1)), (0, .ref rd), (1, .int v0), (2, .int (nI op)), (3, .int (nI d))] dX8_readTalk_1 (by decide) rfl ?_
  refine ax_iload_n hC 2 dX8_readTalk_3 rfl rfl ?_
  refine ax_istore hC [(5, .int v0), (4, .int (-1)), (0, .ref rd), (1, .int v0), (2, .int (nI op)), (3, .int (nI d))] dX8_readTalk_4 (by decide) rfl ?_
  refine ax_iconst (v := 0) hC dX8_readTalk_6 (by decide) ?_
  refine ax_istore hC [(6, .int 0), (5, .int v0), (4, .int (-1)), (0, .ref rd), (1, .int v0), (2, .int (nI op)), (3, .int (nI d))] dX8_readTalk_7 (by decide) rfl ?_
  refine ax_locals [0, 1, 2, 6, 5, 4, 3] (L' := [(6, .int 0), (5, .int v0), (4, .int (-1)), (3, .int (nI d)), (2, .int (nI op)), (1, .int v0), (0, .ref rd)]) rfl ?_
  exact LP nv k0 T0 E0 0 none (-1) (nI b0) v0 h ap0 b0 G0 Ar0 (Nat.le_refl _) (fun _ _ => rfl) hR0 hok0 hLp0 htx0 hat0 hb0 (Nat.zero_le _) (Or.inl ⟨rfl, rfl, rfl⟩) (fun h2 G2 Ar2 hfr2 hR2 hlow har hat2 => ⟨rfl, rfl, hfr2, G2, Ar2, hR2, ⟨hlow.1, fun i hi9 => hlow.2.1 i hi9 (fun t9 ht9 => by cases ht9)⟩, har, hat2⟩)
theorem TalkC_all (n : Nat) : TalkC n := by
  induction n using Nat.strongRecOn with
  | ind n ih => exact c_X8_readTalk n ih