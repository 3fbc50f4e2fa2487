abbrev rmX11_waitsFor : Room := { frames := 1, cells := 0, slots := 0, locals := 20 }
set_option maxRecDepth 100000 in
set_option maxHeartbeats 4000000 in
theorem c_X11_waitsFor_0 (l : Launch) (D : va_G) (z : Nat → ClassId) (B : Heap) (lo hi : Nat) (h : Nat → Option va_E) (o : Nat) (on kp : Int32) (sn : Nat) (rm st dn wt br gv ed : Int32) (ee a n q9 : Nat) (hld en es mo nd9 : Int32) (lf : Nat → Int32) (T : PT) (ff a2 n2 q2 : Nat) (hld2 en2 es2 mo2 : Int32) (lf2 : Nat → Int32) (hO : ObS h o on kp) (hRm : RmS z h (o + 41) (nI sn) rm st dn wt br gv ed) (hE : EndS z h (o + 41 + 5 + 2 * ee) hld (some a) (nI n) en es (nI q9) mo lf) (hP : PrC z h a nd9 T) (hcap : pcap T ≤ 60) (hn : n < pcap T) (hee : ee < 16) (hG : EndS z h (o + 41 + 5 + 2 * ff) hld2 (some a2) (nI n2) en2 es2 (nI q2) mo2 lf2) (hff : ff < 16) (hne : ¬ ee = ff) (hx : nI ee ^^^ 1 = nI ff) (hq9 : q9 ≤ 4) (hq2 : q2 ≤ 4) : Met l yX11_waitsFor wsX11_waitsFor rmX11_waitsFor (KP D vwCl B lo hi h (ty6 z) [.ref o, .int (nI ee), .int 0]) (KQp D vwCl B lo hi h (ty6 z) (fun r => r = 0)) 0 0 (fun q => lo ≤ q) := by
  refine ax_met (by decide) rfl (Nat.le_of_ble_eq_true rfl) (L0 := [(0, .ref o), (1, .int (nI ee)), (2, .int 0)]) rfl ?_
  intro p e s m args below meth c hC hr hlocks hnm hargs
  have iX11 : ∀ w ∈ u_ws RX11 TX11 13, w ∈ wsX11_waitsFor := by decide +kernel
  have iX9 : ∀ w ∈ u_ws RX9 TX9 11, w ∈ wsX11_waitsFor := by decide +kernel
  obtain ⟨hRo, ef, hef, hefi⟩ := id hRm
  refine ax_iload_n hC 1 dX11_waitsFor_0 rfl rfl ?_
  refine ax_iconst (v := 1) hC dX11_waitsFor_1 (by decide) ?_
  refine ax_ixor hC dX11_waitsFor_2 ?_
  refine ax_eqi (y := nI ff) (hx) ?_
  refine ax_istore_n hC [(3, .int (nI ff)), (0, .ref o), (1, .int (nI ee)), (2, .int 0)] dX11_waitsFor_3 rfl (by decide) rfl ?_
  refine ax_iload_n hC 2 dX11_waitsFor_4 rfl rfl ?_
  refine ax_if_lt (tgt := 36) hC dX11_waitsFor_5 (by decide) (fun c1 => ?_) (fun c1 => ?_)
  · exact absurd c1 (nI_pos (by omega))
  · refine ax_iload_n hC 2 dX11_waitsFor_8 rfl rfl ?_
    refine ax_aload_n hC 1 dX11_waitsFor_9 rfl rfl ?_
    refine ax_getf (v := .ref (o + 41)) hC hO iX11 rfl 10 (by decide) (by decide +kernel) rfl rfl dX11_waitsFor_10 ?_
    refine ax_getf (v := .ref (o + 41 + 1)) hC hRo iX9 rfl 0 (by decide) (by decide +kernel) rfl rfl dX11_waitsFor_13 ?_
    refine ax_alen (v := 16) hC hef 3 rfl rfl dX11_waitsFor_16 ?_
    refine ax_icmp_ge (tgt := 36) hC dX11_waitsFor_17 (by decide) (fun c2 => ?_) (fun c2 => ?_)
    · exact absurd c2 (nI_ge (a := ee) (b := 16) (by omega) (by decide))
    · refine ax_iload_n hC 0 dX11_waitsFor_20 rfl rfl ?_
      refine ax_if_lt (tgt := 36) hC dX11_waitsFor_21 (by decide) (fun c3 => ?_) (fun c3 => ?_)
      · exact absurd c3 (nI_pos (by omega))
      · refine ax_iload_n hC 0 dX11_waitsFor_24 rfl rfl ?_
        refine ax_aload_n hC 1 dX11_waitsFor_25 rfl rfl ?_
        refine ax_getf (v := .ref (o + 41)) hC hO iX11 rfl 10 (by decide) (by decide +kernel) rfl rfl dX11_waitsFor_26 ?_
        refine ax_getf (v := .ref (o + 41 + 1)) hC hRo iX9 rfl 0 (by decide) (by decide +kernel) rfl rfl dX11_waitsFor_29 ?_
        refine ax_alen (v := 16) hC hef 3 rfl rfl dX11_waitsFor_32 ?_
        refine ax_icmp_lt (tgt := 38) hC dX11_waitsFor_33 (by decide) (fun c4 => ?_) (fun c4 => ?_)
        · refine ax_iload_n hC 3 dX11_waitsFor_38 rfl rfl ?_
          refine ax_callSp (st := []) hC [.int 0] (c_X11_kindFor l D z B lo _ h 0 (by decide)) (va_cwS 1 hC.1.2.2.2.2 gX11_waitsFor_X11_kindFor rfl rfl rfl (by decide +kernel) ⟨Nat.le_of_ble_eq_true rfl, Nat.le_of_ble_eq_true rfl⟩) rfl rfl (Nat.le_of_ble_eq_true rfl) dX11_waitsFor_39 ⟨Nat.le_of_ble_eq_true rfl, Nat.le_of_ble_eq_true rfl⟩ (fun r5 er6 => ?_)
          subst er6
          refine ax_tableOut (tgt := 121) hC dX11_waitsFor_42 (by decide) (by decide) ?_
          refine ax_iconst (v := 0) hC dX11_waitsFor_121 (by decide) ?_
          refine ax_zret hC hr hlocks dX11_waitsFor_122 (by decide) ?_
          exact ⟨rfl, rfl, rfl⟩
        · exact absurd (nI_lt (a := ff) (b := 16) (by omega) (by decide)) c4

set_option maxRecDepth 100000 in
set_option maxHeartbeats 4000000 in
theorem c_X11_waitsFor_1 (l : Launch) (D : va_G) (z : Nat → ClassId) (B : Heap) (lo hi : Nat) (h : Nat → Option va_E) (o : Nat) (on kp : Int32) (sn : Nat) (rm st dn wt br gv ed : Int32) (ee a n q9 : Nat) (hld en es mo nd9 : Int32) (lf : Nat → Int32) (T : PT) (ff a2 n2 q2 : Nat) (hld2 en2 es2 mo2 : Int32) (lf2 : Nat → Int32) (hO : ObS h o on kp) (hRm : RmS z h (o + 41) (nI sn) rm st dn wt br gv ed) (hE : EndS z h (o + 41 + 5 + 2 * ee) hld (some a) (nI n) en es (nI q9) mo lf) (hP : PrC z h a nd9 T) (hcap : pcap T ≤ 60) (hn : n < pcap T) (hee : ee < 16) (hG : EndS z h (o + 41 + 5 + 2 * ff) hld2 (some a2) (nI n2) en2 es2 (nI q2) mo2 lf2) (hff : ff < 16) (hne : ¬ ee = ff) (hx : nI ee ^^^ 1 = nI ff) (hq9 : q9 ≤ 4) (hq2 : q2 ≤ 4) : Met l yX11_waitsFor wsX11_waitsFor rmX11_waitsFor (KP D vwCl B lo hi h (ty6 z) [.ref o, .int (nI ee), .int 1]) (KQp D vwCl B lo hi h (ty6 z) (fun r => r = 1 ∨ (r = 0 ∧ nI q2 < rm))) 0 0 (fun q => lo ≤ q) := by
  refine ax_met (by decide) rfl (Nat.le_of_ble_eq_true rfl) (L0 := [(0, .ref o), (1, .int (nI ee)), (2, .int 1)]) rfl ?_
  intro p e s m args below meth c hC hr hlocks hnm hargs
  have iX11 : ∀ w ∈ u_ws RX11 TX11 13, w ∈ wsX11_waitsFor := by decide +kernel
  have iX2 : ∀ w ∈ u_ws RX2 TX2 8, w ∈ wsX11_waitsFor := by decide +kernel
  have iX9 : ∀ w ∈ u_ws RX9 TX9 11, w ∈ wsX11_waitsFor := by decide +kernel
  obtain ⟨hRo, ef, hef, hefi⟩ := id hRm
  refine ax_iload_n hC 1 dX11_waitsFor_0 rfl rfl ?_
  refine ax_iconst (v := 1) hC dX11_waitsFor_1 (by decide) ?_
  refine ax_ixor hC dX11_waitsFor_2 ?_
  refine ax_eqi (y := nI ff) (hx) ?_
  refine ax_istore_n hC [(3, .int (nI ff)), (0, .ref o), (1, .int (nI ee)), (2, .int 1)] dX11_waitsFor_3 rfl (by decide) rfl ?_
  refine ax_iload_n hC 2 dX11_waitsFor_4 rfl rfl ?_
  refine ax_if_lt (tgt := 36) hC dX11_waitsFor_5 (by decide) (fun c1 => ?_) (fun c1 => ?_)
  · exact absurd c1 (nI_pos (by omega))
  · refine ax_iload_n hC 2 dX11_waitsFor_8 rfl rfl ?_
    refine ax_aload_n hC 1 dX11_waitsFor_9 rfl rfl ?_
    refine ax_getf (v := .ref (o + 41)) hC hO iX11 rfl 10 (by decide) (by decide +kernel) rfl rfl dX11_waitsFor_10 ?_
    refine ax_getf (v := .ref (o + 41 + 1)) hC hRo iX9 rfl 0 (by decide) (by decide +kernel) rfl rfl dX11_waitsFor_13 ?_
    refine ax_alen (v := 16) hC hef 3 rfl rfl dX11_waitsFor_16 ?_
    refine ax_icmp_ge (tgt := 36) hC dX11_waitsFor_17 (by decide) (fun c2 => ?_) (fun c2 => ?_)
    · exact absurd c2 (nI_ge (a := ee) (b := 16) (by omega) (by decide))
    · refine ax_iload_n hC 0 dX11_waitsFor_20 rfl rfl ?_
      refine ax_if_lt (tgt := 36) hC dX11_waitsFor_21 (by decide) (fun c3 => ?_) (fun c3 => ?_)
      · exact absurd c3 (nI_pos (by omega))
      · refine ax_iload_n hC 0 dX11_waitsFor_24 rfl rfl ?_
        refine ax_aload_n hC 1 dX11_waitsFor_25 rfl rfl ?_
        refine ax_getf (v := .ref (o + 41)) hC hO iX11 rfl 10 (by decide) (by decide +kernel) rfl rfl dX11_waitsFor_26 ?_
        refine ax_getf (v := .ref (o + 41 + 1)) hC hRo iX9 rfl 0 (by decide) (by decide +kernel) rfl rfl dX11_waitsFor_29 ?_
        refine ax_alen (v := 16) hC hef 3 rfl rfl dX11_waitsFor_32 ?_
        refine ax_icmp_lt (tgt := 38) hC dX11_waitsFor_33 (by decide) (fun c4 => ?_) (fun c4 => ?_)
        · refine ax_iload_n hC 3 dX11_waitsFor_38 rfl rfl ?_
          refine ax_callSp (st := []) hC [.int 1] (c_X11_kindFor l D z B lo _ h 1 (by decide)) (va_cwS 1 hC.1.2.2.2.2 gX11_waitsFor_X11_kindFor rfl rfl rfl (by decide +kernel) ⟨Nat.le_of_ble_eq_true rfl, Nat.le_of_ble_eq_true rfl⟩) rfl rfl (Nat.le_of_ble_eq_true rfl) dX11_waitsFor_39 ⟨Nat.le_of_ble_eq_true rfl, Nat.le_of_ble_eq_true rfl⟩ (fun r5 er6 => ?_)
          subst er6
          refine ax_tableIn (tgt := 72) (off := 30) hC dX11_waitsFor_42 (by decide) (by decide) (by decide) (by decide) ?_
          refine ax_aload_n hC 1 dX11_waitsFor_72 rfl rfl ?_
          refine ax_getf (v := .ref (o + 41)) hC hO iX11 rfl 10 (by decide) (by decide +kernel) rfl rfl dX11_waitsFor_73 ?_
          refine ax_getf (v := .ref (o + 41 + 1)) hC hRo iX9 rfl 0 (by decide) (by decide +kernel) rfl rfl dX11_waitsFor_76 ?_
          refine ax_iload_n hC 0 dX11_waitsFor_79 rfl rfl ?_
          have b7 : vp_in (nI ff) 16 := vp_in_nI (by omega) (by omega)
          refine ax_aald hC hef 3 rfl b7 dX11_waitsFor_80 ?_
          refine ax_eqq (y := ef ff) (by rw [nI_clamp (by omega)] <;> rfl) ?_
          refine ax_eqq (y := some (o + 41 + 5 + 2 * ff)) (hefi ff (by omega)) ?_
          refine ax_getf (v := .int (nI q2)) hC hG.1 iX2 rfl 5 (by decide) (by decide +kernel) rfl rfl dX11_waitsFor_81 ?_
          refine ax_aload_n hC 1 dX11_waitsFor_84 rfl rfl ?_
          refine ax_getf (v := .ref (o + 41)) hC hO iX11 rfl 10 (by decide) (by decide +kernel) rfl rfl dX11_waitsFor_85 ?_
          refine ax_getf (v := .int rm) hC hRo iX9 rfl 4 (by decide) (by decide +kernel) rfl rfl dX11_waitsFor_88 ?_
          refine ax_icmp_lt (tgt := 98) hC dX11_waitsFor_91 (by decide) (fun c8 => ?_) (fun c8 => ?_)
          · refine ax_iconst (v := 0) hC dX11_waitsFor_98 (by decide) ?_
            refine ax_zret hC hr hlocks dX11_waitsFor_99 (by decide) ?_
            exact ⟨Or.inr ⟨rfl, c8⟩, rfl, rfl⟩
          · refine ax_iconst (v := 1) hC dX11_waitsFor_94 (by decide) ?_
            refine ax_goto (tgt := 99) hC dX11_waitsFor_95 (by decide) ?_
            refine ax_zret hC hr hlocks dX11_waitsFor_99 (by decide) ?_
            exact ⟨Or.inl rfl, rfl, rfl⟩
        · exact absurd (nI_lt (a := ff) (b := 16) (by omega) (by decide)) c4

set_option maxRecDepth 100000 in
set_option maxHeartbeats 4000000 in
theorem c_X11_waitsFor_2 (l : Launch) (D : va_G) (z : Nat → ClassId) (B : Heap) (lo hi : Nat) (h : Nat → Option va_E) (o : Nat) (on kp : Int32) (sn : Nat) (rm st dn wt br gv ed : Int32) (ee a n q9 : Nat) (hld en es mo nd9 : Int32) (lf : Nat → Int32) (T : PT) (ff a2 n2 q2 : Nat) (hld2 en2 es2 mo2 : Int32) (lf2 : Nat → Int32) (hO : ObS h o on kp) (hRm : RmS z h (o + 41) (nI sn) rm st dn wt br gv ed) (hE : EndS z h (o + 41 + 5 + 2 * ee) hld (some a) (nI n) en es (nI q9) mo lf) (hP : PrC z h a nd9 T) (hcap : pcap T ≤ 60) (hn : n < pcap T) (hee : ee < 16) (hG : EndS z h (o + 41 + 5 + 2 * ff) hld2 (some a2) (nI n2) en2 es2 (nI q2) mo2 lf2) (hff : ff < 16) (hne : ¬ ee = ff) (hx : nI ee ^^^ 1 = nI ff) (hq9 : q9 ≤ 4) (hq2 : q2 ≤ 4) : Met l yX11_waitsFor wsX11_waitsFor rmX11_waitsFor (KP D vwCl B lo hi h (ty6 z) [.ref o, .int (nI ee), .int 2]) (KQp D vwCl B lo hi h (ty6 z) (fun r => r = 1 ∨ (r = 0 ∧ ¬ nI q9 = 0))) 0 0 (fun q => lo ≤ q) := by
  refine ax_met (by decide) rfl (Nat.le_of_ble_eq_true rfl) (L0 := [(0, .ref o), (1, .int (nI ee)), (2, .int 2)]) rfl ?_
  intro p e s m args below meth c hC hr hlocks hnm hargs
  have iX11 : ∀ w ∈ u_ws RX11 TX11 13, w ∈ wsX11_waitsFor := by decide +kernel
  have iX2 : ∀ w ∈ u_ws RX2 TX2 8, w ∈ wsX11_waitsFor := by decide +kernel
  have iX9 : ∀ w ∈ u_ws RX9 TX9 11, w ∈ wsX11_waitsFor := by decide +kernel
  obtain ⟨hRo, ef, hef, hefi⟩ := id hRm
  refine ax_iload_n hC 1 dX11_waitsFor_0 rfl rfl ?_
  refine ax_iconst (v := 1) hC dX11_waitsFor_1 (by decide) ?_
  refine ax_ixor hC dX11_waitsFor_2 ?_
  refine ax_eqi (y := nI ff) (hx) ?_
  refine ax_istore_n hC [(3, .int (nI ff)), (0, .ref o), (1, .int (nI ee)), (2, .int 2)] dX11_waitsFor_3 rfl (by decide) rfl ?_
  refine ax_iload_n hC 2 dX11_waitsFor_4 rfl rfl ?_
  refine ax_if_lt (tgt := 36) hC dX11_waitsFor_5 (by decide) (fun c1 => ?_) (fun c1 => ?_)
  · exact absurd c1 (nI_pos (by omega))
  · refine ax_iload_n hC 2 dX11_waitsFor_8 rfl rfl ?_
    refine ax_aload_n hC 1 dX11_waitsFor_9 rfl rfl ?_
    refine ax_getf (v := .ref (o + 41)) hC hO iX11 rfl 10 (by decide) (by decide +kernel) rfl rfl dX11_waitsFor_10 ?_
    refine ax_getf (v := .ref (o + 41 + 1)) hC hRo iX9 rfl 0 (by decide) (by decide +kernel) rfl rfl dX11_waitsFor_13 ?_
    refine ax_alen (v := 16) hC hef 3 rfl rfl dX11_waitsFor_16 ?_
    refine ax_icmp_ge (tgt := 36) hC dX11_waitsFor_17 (by decide) (fun c2 => ?_) (fun c2 => ?_)
    · exact absurd c2 (nI_ge (a := ee) (b := 16) (by omega) (by decide))
    · refine ax_iload_n hC 0 dX11_waitsFor_20 rfl rfl ?_
      refine ax_if_lt (tgt := 36) hC dX11_waitsFor_21 (by decide) (fun c3 => ?_) (fun c3 => ?_)
      · exact absurd c3 (nI_pos (by omega))
      · refine ax_iload_n hC 0 dX11_waitsFor_24 rfl rfl ?_
        refine ax_aload_n hC 1 dX11_waitsFor_25 rfl rfl ?_
        refine ax_getf (v := .ref (o + 41)) hC hO iX11 rfl 10 (by decide) (by decide +kernel) rfl rfl dX11_waitsFor_26 ?_
        refine ax_getf (v := .ref (o + 41 + 1)) hC hRo iX9 rfl 0 (by decide) (by decide +kernel) rfl rfl dX11_waitsFor_29 ?_
        refine ax_alen (v := 16) hC hef 3 rfl rfl dX11_waitsFor_32 ?_
        refine ax_icmp_lt (tgt := 38) hC dX11_waitsFor_33 (by decide) (fun c4 => ?_) (fun c4 => ?_)
        · refine ax_iload_n hC 3 dX11_waitsFor_38 rfl rfl ?_
          refine ax_callSp (st := []) hC [.int 2] (c_X11_kindFor l D z B lo _ h 2 (by decide)) (va_cwS 1 hC.1.2.2.2.2 gX11_waitsFor_X11_kindFor rfl rfl rfl (by decide +kernel) ⟨Nat.le_of_ble_eq_true rfl, Nat.le_of_ble_eq_true rfl⟩) rfl rfl (Nat.le_of_ble_eq_true rfl) dX11_waitsFor_39 ⟨Nat.le_of_ble_eq_true rfl, Nat.le_of_ble_eq_true rfl⟩ (fun r5 er6 => ?_)
          subst er6
          refine ax_tableIn (tgt := 100) (off := 58) hC dX11_waitsFor_42 (by decide) (by decide) (by decide) (by decide) ?_
          refine ax_aload_n hC 1 dX11_waitsFor_100 rfl rfl ?_
          refine ax_getf (v := .ref (o + 41)) hC hO iX11 rfl 10 (by decide) (by decide +kernel) rfl rfl dX11_waitsFor_101 ?_
          refine ax_getf (v := .ref (o + 41 + 1)) hC hRo iX9 rfl 0 (by decide) (by decide +kernel) rfl rfl dX11_waitsFor_104 ?_
          refine ax_iload_n hC 2 dX11_waitsFor_107 rfl rfl ?_
          have b7 : vp_in (nI ee) 16 := vp_in_nI (by omega) (by omega)
          refine ax_aald hC hef 3 rfl b7 dX11_waitsFor_108 ?_
          refine ax_eqq (y := ef ee) (by rw [nI_clamp (by omega)] <;> rfl) ?_
          refine ax_eqq (y := some (o + 41 + 5 + 2 * ee)) (hefi ee (by omega)) ?_
          refine ax_getf (v := .int (nI q9)) hC hE.1 iX2 rfl 5 (by decide) (by decide +kernel) rfl rfl dX11_waitsFor_109 ?_
          refine ax_if_ne (tgt := 119) hC dX11_waitsFor_112 (by decide) (fun c8 => ?_) (fun c8 => ?_)
          · refine ax_iconst (v := 0) hC dX11_waitsFor_119 (by decide) ?_
            refine ax_zret hC hr hlocks dX11_waitsFor_120 (by decide) ?_
            exact ⟨Or.inr ⟨rfl, c8⟩, rfl, rfl⟩
          · refine ax_iconst (v := 1) hC dX11_waitsFor_115 (by decide) ?_
            refine ax_goto (tgt := 120) hC dX11_waitsFor_116 (by decide) ?_
            refine ax_zret hC hr hlocks dX11_waitsFor_120 (by decide) ?_
            exact ⟨Or.inl rfl, rfl, rfl⟩
        · exact absurd (nI_lt (a := ff) (b := 16) (by omega) (by decide)) c4

set_option maxRecDepth 100000 in
set_option maxHeartbeats 4000000 in
theorem c_X11_waitsFor_3 (l : Launch) (D : va_G) (z : Nat → ClassId) (B : Heap) (lo hi : Nat) (h : Nat → Option va_E) (o : Nat) (on kp : Int32) (sn : Nat) (rm st dn wt br gv ed : Int32) (ee a n q9 : Nat) (hld en es mo nd9 : Int32) (lf : Nat → Int32) (T : PT) (ff a2 n2 q2 : Nat) (hld2 en2 es2 mo2 : Int32) (lf2 : Nat → Int32) (hO : ObS h o on kp) (hRm : RmS z h (o + 41) (nI sn) rm st dn wt br gv ed) (hE : EndS z h (o + 41 + 5 + 2 * ee) hld (some a) (nI n) en es (nI q9) mo lf) (hP : PrC z h a nd9 T) (hcap : pcap T ≤ 60) (hn : n < pcap T) (hee : ee < 16) (hG : EndS z h (o + 41 + 5 + 2 * ff) hld2 (some a2) (nI n2) en2 es2 (nI q2) mo2 lf2) (hff : ff < 16) (hne : ¬ ee = ff) (hx : nI ee ^^^ 1 = nI ff) (hq9 : q9 ≤ 4) (hq2 : q2 ≤ 4) : Met l yX11_waitsFor wsX11_waitsFor rmX11_waitsFor (KP D vwCl B lo hi h (ty6 z) [.ref o, .int (nI ee), .int 3]) (KQp D vwCl B lo hi h (ty6 z) (fun r => r = 1 ∨ (r = 0 ∧ nI q2 < rm))) 0 0 (fun q => lo ≤ q) := by
  refine ax_met (by decide) rfl (Nat.le_of_ble_eq_true rfl) (L0 := [(0, .ref o), (1, .int (nI ee)), (2, .int 3)]) rfl ?_
  intro p e s m args below meth c hC hr hlocks hnm hargs
  have iX11 : ∀ w ∈ u_ws RX11 TX11 13, w ∈ wsX11_waitsFor := by decide +kernel
  have iX2 : ∀ w ∈ u_ws RX2 TX2 8, w ∈ wsX11_waitsFor := by decide +kernel
  have iX9 : ∀ w ∈ u_ws RX9 TX9 11, w ∈ wsX11_waitsFor := by decide +kernel
  obtain ⟨hRo, ef, hef, hefi⟩ := id hRm
  refine ax_iload_n hC 1 dX11_waitsFor_0 rfl rfl ?_
  refine ax_iconst (v := 1) hC dX11_waitsFor_1 (by decide) ?_
  refine ax_ixor hC dX11_waitsFor_2 ?_
  refine ax_eqi (y := nI ff) (hx) ?_
  refine ax_istore_n hC [(3, .int (nI ff)), (0, .ref o), (1, .int (nI ee)), (2, .int 3)] dX11_waitsFor_3 rfl (by decide) rfl ?_
  refine ax_iload_n hC 2 dX11_waitsFor_4 rfl rfl ?_
  refine ax_if_lt (tgt := 36) hC dX11_waitsFor_5 (by decide) (fun c1 => ?_) (fun c1 => ?_)
  · exact absurd c1 (nI_pos (by omega))
  · refine ax_iload_n hC 2 dX11_waitsFor_8 rfl rfl ?_
    refine ax_aload_n hC 1 dX11_waitsFor_9 rfl rfl ?_
    refine ax_getf (v := .ref (o + 41)) hC hO iX11 rfl 10 (by decide) (by decide +kernel) rfl rfl dX11_waitsFor_10 ?_
    refine ax_getf (v := .ref (o + 41 + 1)) hC hRo iX9 rfl 0 (by decide) (by decide +kernel) rfl rfl dX11_waitsFor_13 ?_
    refine ax_alen (v := 16) hC hef 3 rfl rfl dX11_waitsFor_16 ?_
    refine ax_icmp_ge (tgt := 36) hC dX11_waitsFor_17 (by decide) (fun c2 => ?_) (fun c2 => ?_)
    · exact absurd c2 (nI_ge (a := ee) (b := 16) (by omega) (by decide))
    · refine ax_iload_n hC 0 dX11_waitsFor_20 rfl rfl ?_
      refine ax_if_lt (tgt := 36) hC dX11_waitsFor_21 (by decide) (fun c3 => ?_) (fun c3 => ?_)
      · exact absurd c3 (nI_pos (by omega))
      · refine ax_iload_n hC 0 dX11_waitsFor_24 rfl rfl ?_
        refine ax_aload_n hC 1 dX11_waitsFor_25 rfl rfl ?_
        refine ax_getf (v := .ref (o + 41)) hC hO iX11 rfl 10 (by decide) (by decide +kernel) rfl rfl dX11_waitsFor_26 ?_
        refine ax_getf (v := .ref (o + 41 + 1)) hC hRo iX9 rfl 0 (by decide) (by decide +kernel) rfl rfl dX11_waitsFor_29 ?_
        refine ax_alen (v := 16) hC hef 3 rfl rfl dX11_waitsFor_32 ?_
        refine ax_icmp_lt (tgt := 38) hC dX11_waitsFor_33 (by decide) (fun c4 => ?_) (fun c4 => ?_)
        · refine ax_iload_n hC 3 dX11_waitsFor_38 rfl rfl ?_
          refine ax_callSp (st := []) hC [.int 3] (c_X11_kindFor l D z B lo _ h 3 (by decide)) (va_cwS 1 hC.1.2.2.2.2 gX11_waitsFor_X11_kindFor rfl rfl rfl (by decide +kernel) ⟨Nat.le_of_ble_eq_true rfl, Nat.le_of_ble_eq_true rfl⟩) rfl rfl (Nat.le_of_ble_eq_true rfl) dX11_waitsFor_39 ⟨Nat.le_of_ble_eq_true rfl, Nat.le_of_ble_eq_true rfl⟩ (fun r5 er6 => ?_)
          subst er6
          refine ax_tableIn (tgt := 72) (off := 30) hC dX11_waitsFor_42 (by decide) (by decide) (by decide) (by decide) ?_
          refine ax_aload_n hC 1 dX11_waitsFor_72 rfl rfl ?_
          refine ax_getf (v := .ref (o + 41)) hC hO iX11 rfl 10 (by decide) (by decide +kernel) rfl rfl dX11_waitsFor_73 ?_
          refine ax_getf (v := .ref (o + 41 + 1)) hC hRo iX9 rfl 0 (by decide) (by decide +kernel) rfl rfl dX11_waitsFor_76 ?_
          refine ax_iload_n hC 0 dX11_waitsFor_79 rfl rfl ?_
          have b7 : vp_in (nI ff) 16 := vp_in_nI (by omega) (by omega)
          refine ax_aald hC hef 3 rfl b7 dX11_waitsFor_80 ?_
          refine ax_eqq (y := ef ff) (by rw [nI_clamp (by omega)] <;> rfl) ?_
          refine ax_eqq (y := some (o + 41 + 5 + 2 * ff)) (hefi ff (by omega)) ?_
          refine ax_getf (v := .int (nI q2)) hC hG.1 iX2 rfl 5 (by decide) (by decide +kernel) rfl rfl dX11_waitsFor_81 ?_
          refine ax_aload_n hC 1 dX11_waitsFor_84 rfl rfl ?_
          refine ax_getf (v := .ref (o + 41)) hC hO iX11 rfl 10 (by decide) (by decide +kernel) rfl rfl dX11_waitsFor_85 ?_
          refine ax_getf (v := .int rm) hC hRo iX9 rfl 4 (by decide) (by decide +kernel) rfl rfl dX11_waitsFor_88 ?_
          refine ax_icmp_lt (tgt := 98) hC dX11_waitsFor_91 (by decide) (fun c8 => ?_) (fun c8 => ?_)
          · refine ax_iconst (v := 0) hC dX11_waitsFor_98 (by decide) ?_
            refine ax_zret hC hr hlocks dX11_waitsFor_99 (by decide) ?_
            exact ⟨Or.inr ⟨rfl, c8⟩, rfl, rfl⟩
          · refine ax_iconst (v := 1) hC dX11_waitsFor_94 (by decide) ?_
            refine ax_goto (tgt := 99) hC dX11_waitsFor_95 (by decide) ?_
            refine ax_zret hC hr hlocks dX11_waitsFor_99 (by decide) ?_
            exact ⟨Or.inl rfl, rfl, rfl⟩
        · exact absurd (nI_lt (a := ff) (b := 16) (by omega) (by decide)) c4

set_option maxRecDepth 100000 in
set_option maxHeartbeats 4000000 in
theorem c_X11_waitsFor_4 (l : Launch) (D : va_G) (z : Nat → ClassId) (B : Heap) (lo hi : Nat) (h : Nat → Option va_E) (o : Nat) (on kp : Int32) (sn : Nat) (rm st dn wt br gv ed : Int32) (ee a n q9 : Nat) (hld en es mo nd9 : Int32) (lf : Nat → Int32) (T : PT) (ff a2 n2 q2 : Nat) (hld2 en2 es2 mo2 : Int32) (lf2 : Nat → Int32) (hO : ObS h o on kp) (hRm : RmS z h (o + 41) (nI sn) rm st dn wt br gv ed) (hE : EndS z h (o + 41 + 5 + 2 * ee) hld (some a) (nI n) en es (nI q9) mo lf) (hP : PrC z h a nd9 T) (hcap : pcap T ≤ 60) (hn : n < pcap T) (hee : ee < 16) (hG : EndS z h (o + 41 + 5 + 2 * ff) hld2 (some a2) (nI n2) en2 es2 (nI q2) mo2 lf2) (hff : ff < 16) (hne : ¬ ee = ff) (hx : nI ee ^^^ 1 = nI ff) (hq9 : q9 ≤ 4) (hq2 : q2 ≤ 4) : Met l yX11_waitsFor wsX11_waitsFor rmX11_waitsFor (KP D vwCl B lo hi h (ty6 z) [.ref o, .int (nI ee), .int 4]) (KQp D vwCl B lo hi h (ty6 z) (fun r => r = 1 ∨ (r = 0 ∧ ¬ nI q9 = 0))) 0 0 (fun q => lo ≤ q) := by
  refine ax_met (by decide) rfl (Nat.le_of_ble_eq_true rfl) (L0 := [(0, .ref o), (1, .int (nI ee)), (2, .int 4)]) rfl ?_
  intro p e s m args below meth c hC hr hlocks hnm hargs
  have iX11 : ∀ w ∈ u_ws RX11 TX11 13, w ∈ wsX11_waitsFor := by decide +kernel
  have iX2 : ∀ w ∈ u_ws RX2 TX2 8, w ∈ wsX11_waitsFor := by decide +kernel
  have iX9 : ∀ w ∈ u_ws RX9 TX9 11, w ∈ wsX11_waitsFor := by decide +kernel
  obtain ⟨hRo, ef, hef, hefi⟩ := id hRm
  refine ax_iload_n hC 1 dX11_waitsFor_0 rfl rfl ?_
  refine ax_iconst (v := 1) hC dX11_waitsFor_1 (by decide) ?_
  refine ax_ixor hC dX11_waitsFor_2 ?_
  refine ax_eqi (y := nI ff) (hx) ?_
  refine ax_istore_n hC [(3, .int (nI ff)), (0, .ref o), (1, .int (nI ee)), (2, .int 4)] dX11_waitsFor_3 rfl (by decide) rfl ?_
  refine ax_iload_n hC 2 dX11_waitsFor_4 rfl rfl ?_
  refine ax_if_lt (tgt := 36) hC dX11_waitsFor_5 (by decide) (fun c1 => ?_) (fun c1 => ?_)
  · exact absurd c1 (nI_pos (by omega))
  · refine ax_iload_n hC 2 dX11_waitsFor_8 rfl rfl ?_
    refine ax_aload_n hC 1 dX11_waitsFor_9 rfl rfl ?_
    refine ax_getf (v := .ref (o + 41)) hC hO iX11 rfl 10 (by decide) (by decide +kernel) rfl rfl dX11_waitsFor_10 ?_
    refine ax_getf (v := .ref (o + 41 + 1)) hC hRo iX9 rfl 0 (by decide) (by decide +kernel) rfl rfl dX11_waitsFor_13 ?_
    refine ax_alen (v := 16) hC hef 3 rfl rfl dX11_waitsFor_16 ?_
    refine ax_icmp_ge (tgt := 36) hC dX11_waitsFor_17 (by decide) (fun c2 => ?_) (fun c2 => ?_)
    · exact absurd c2 (nI_ge (a := ee) (b := 16) (by omega) (by decide))
    · refine ax_iload_n hC 0 dX11_waitsFor_20 rfl rfl ?_
      refine ax_if_lt (tgt := 36) hC dX11_waitsFor_21 (by decide) (fun c3 => ?_) (fun c3 => ?_)
      · exact absurd c3 (nI_pos (by omega))
      · refine ax_iload_n hC 0 dX11_waitsFor_24 rfl rfl ?_
        refine ax_aload_n hC 1 dX11_waitsFor_25 rfl rfl ?_
        refine ax_getf (v := .ref (o + 41)) hC hO iX11 rfl 10 (by decide) (by decide +kernel) rfl rfl dX11_waitsFor_26 ?_
        refine ax_getf (v := .ref (o + 41 + 1)) hC hRo iX9 rfl 0 (by decide) (by decide +kernel) rfl rfl dX11_waitsFor_29 ?_
        refine ax_alen (v := 16) hC hef 3 rfl rfl dX11_waitsFor_32 ?_
        refine ax_icmp_lt (tgt := 38) hC dX11_waitsFor_33 (by decide) (fun c4 => ?_) (fun c4 => ?_)
        · refine ax_iload_n hC 3 dX11_waitsFor_38 rfl rfl ?_
          refine ax_callSp (st := []) hC [.int 4] (c_X11_kindFor l D z B lo _ h 4 (by decide)) (va_cwS 1 hC.1.2.2.2.2 gX11_waitsFor_X11_kindFor rfl rfl rfl (by decide +kernel) ⟨Nat.le_of_ble_eq_true rfl, Nat.le_of_ble_eq_true rfl⟩) rfl rfl (Nat.le_of_ble_eq_true rfl) dX11_waitsFor_39 ⟨Nat.le_of_ble_eq_true rfl, Nat.le_of_ble_eq_true rfl⟩ (fun r5 er6 => ?_)
          subst er6
          refine ax_tableIn (tgt := 100) (off := 58) hC dX11_waitsFor_42 (by decide) (by decide) (by decide) (by decide) ?_
          refine ax_aload_n hC 1 dX11_waitsFor_100 rfl rfl ?_
          refine ax_getf (v := .ref (o + 41)) hC hO iX11 rfl 10 (by decide) (by decide +kernel) rfl rfl dX11_waitsFor_101 ?_
          refine ax_getf (v := .ref (o + 41 + 1)) hC hRo iX9 rfl 0 (by decide) (by decide +kernel) rfl rfl dX11_waitsFor_104 ?_
          refine ax_iload_n hC 2 dX11_waitsFor_107 rfl rfl ?_
          have b7 : vp_in (nI ee) 16 := vp_in_nI (by omega) (by omega)
          refine ax_aald hC hef 3 rfl b7 dX11_waitsFor_108 ?_
          refine ax_eqq (y := ef ee) (by rw [nI_clamp (by omega)] <;> rfl) ?_
          refine ax_eqq (y := some (o + 41 + 5 + 2 * ee)) (hefi ee (by omega)) ?_
          refine ax_getf (v := .int (nI q9)) hC hE.1 iX2 rfl 5 (by decide) (by decide +kernel) rfl rfl dX11_waitsFor_109 ?_
          refine ax_if_ne (tgt := 119) hC dX11_waitsFor_112 (by decide) (fun c8 => ?_) (fun c8 => ?_)
          · refine ax_iconst (v := 0) hC dX11_waitsFor_119 (by decide) ?_
            refine ax_zret hC hr hlocks dX11_waitsFor_120 (by decide) ?_
            exact ⟨Or.inr ⟨rfl, c8⟩, rfl, rfl⟩
          · refine ax_iconst (v := 1) hC dX11_waitsFor_115 (by decide) ?_
            refine ax_goto (tgt := 120) hC dX11_waitsFor_116 (by decide) ?_
            refine ax_zret hC hr hlocks dX11_waitsFor_120 (by decide) ?_
            exact ⟨Or.inl rfl, rfl, rfl⟩
        · exact absurd (nI_lt (a := ff) (b := 16) (by omega) (by decide)) c4

abbrev rmX11_judge : Room := { frames := 3, cells := 0, slots := 0, locals := 62 }
set_option maxRecDepth 100000 in
set_option maxHeartbeats 4000000 in
theorem c_X11_judge_0 (l : Launch) (D : va_G) (z : Nat → ClassId) (B : Heap) (lo hi : Nat) (h : Nat → Option va_E) (o : Nat) (on kp : Int32) (sn : Nat) (rm st dn wt br gv ed : Int32) (ee a n q9 : Nat) (hld es mo nd9 : Int32) (lf : Nat → Int32) (T : PT) (ff a2 n2 q2 : Nat) (hld2 en2 es2 mo2 : Int32) (lf2 : Nat → Int32) (hO : ObS h o on kp) (hRm : RmS z h (o + 41) (nI sn) rm st dn wt br gv ed) (hE : EndS z h (o + 41 + 5 + 2 * ee) hld (some a) (nI n) 0 es (nI q9) mo lf) (hP : PrC z h a nd9 T) (hcap : pcap T ≤ 60) (hn : n < pcap T) (hee : ee < 16) (hG : EndS z h (o + 41 + 5 + 2 * ff) hld2 (some a2) (nI n2) en2 es2 (nI q2) mo2 lf2) (hff : ff < 16) (hne : ¬ ee = ff) (hx : nI ee ^^^ 1 = nI ff) (hq9 : q9 ≤ 4) (hq2 : q2 ≤ 4) (hw : wfP T) (hkk : pK T n = 0) : Met l yX11_judge wsX11_judge rmX11_judge (KP D vwCl B lo hi h (ty6 z) [.ref o, .int hld, .int (nI ee), .int 0, .int 0]) (KQp D vwCl B lo hi h (ty6 z) (fun r => (r = 0))) 0 0 (fun q => lo ≤ q) := by
  refine ax_met (by decide) rfl (Nat.le_of_ble_eq_true rfl) (L0 := [(0, .ref o), (1, .int hld), (2, .int (nI ee)), (3, .int 0), (4, .int 0)]) rfl ?_
  intro p e s m args below meth c hC hr hlocks hnm hargs
  have iX11 : ∀ w ∈ u_ws RX11 TX11 13, w ∈ wsX11_judge := by decide +kernel
  have iX2 : ∀ w ∈ u_ws RX2 TX2 8, w ∈ wsX11_judge := by decide +kernel
  have iX9 : ∀ w ∈ u_ws RX9 TX9 11, w ∈ wsX11_judge := by decide +kernel
  obtain ⟨hRo, ef, hef, hefi⟩ := id hRm
  refine ax_iload_n hC 2 dX11_judge_0 rfl rfl ?_
  refine ax_if_lt (tgt := 16) hC dX11_judge_1 (by decide) (fun c1 => ?_) (fun c1 => ?_)
  · exact absurd c1 (nI_pos (by omega))
  · refine ax_iload_n hC 2 dX11_judge_4 rfl rfl ?_
    refine ax_aload_n hC 0 dX11_judge_5 rfl rfl ?_
    refine ax_getf (v := .ref (o + 41)) hC hO iX11 rfl 10 (by decide) (by decide +kernel) rfl rfl dX11_judge_6 ?_
    refine ax_getf (v := .ref (o + 41 + 1)) hC hRo iX9 rfl 0 (by decide) (by decide +kernel) rfl rfl dX11_judge_9 ?_
    refine ax_alen (v := 16) hC hef 3 rfl rfl dX11_judge_12 ?_
    refine ax_icmp_lt (tgt := 18) hC dX11_judge_13 (by decide) (fun c2 => ?_) (fun c2 => ?_)
    · refine ax_aload_n hC 0 dX11_judge_18 rfl rfl ?_
      refine ax_getf (v := .ref (o + 41)) hC hO iX11 rfl 10 (by decide) (by decide +kernel) rfl rfl dX11_judge_19 ?_
      refine ax_getf (v := .ref (o + 41 + 1)) hC hRo iX9 rfl 0 (by decide) (by decide +kernel) rfl rfl dX11_judge_22 ?_
      refine ax_iload_n hC 2 dX11_judge_25 rfl rfl ?_
      have b3 : vp_in (nI ee) 16 := vp_in_nI (by omega) (by omega)
      refine ax_aald hC hef 3 rfl b3 dX11_judge_26 ?_
      refine ax_eqq (y := ef ee) (by rw [nI_clamp (by omega)] <;> rfl) ?_
      refine ax_eqq (y := some (o + 41 + 5 + 2 * ee)) (hefi ee (by omega)) ?_
      refine ax_astore hC [(5, .ref (o + 41 + 5 + 2 * ee)), (0, .ref o), (1, .int hld), (2, .int (nI ee)), (3, .int 0), (4, .int 0)] dX11_judge_27 (by decide) rfl ?_
      refine ax_aload hC 0 dX11_judge_29 rfl ?_
      refine ax_getf (v := .int hld) hC hE.1 iX2 rfl 0 (by decide) (by decide +kernel) rfl rfl dX11_judge_31 ?_
      refine ax_iload_n hC 2 dX11_judge_34 rfl rfl ?_
      refine ax_icmp_eq (tgt := 40) hC dX11_judge_35 (by decide) (fun c4 => ?_) (fun c4 => ?_)
      · refine ax_aload hC 0 dX11_judge_40 rfl ?_
        refine ax_getf (v := .int 0) hC hE.1 iX2 rfl 3 (by decide) (by decide +kernel) rfl rfl dX11_judge_42 ?_
        refine ax_if_eq (tgt := 50) hC dX11_judge_45 (by decide) (fun c5 => ?_) (fun c5 => ?_)
        · refine ax_aload hC 0 dX11_judge_50 rfl ?_
          refine ax_getf (v := .ref a) hC hE.1 iX2 rfl 1 (by decide) (by decide +kernel) rfl rfl dX11_judge_52 ?_
          refine ax_ifnull hC dX11_judge_55 ?_
          refine ax_aload hC 0 dX11_judge_58 rfl ?_
          refine ax_callVp (st := []) hC [] hE.1 rfl (c_X2_kind l D z B lo _ h (o + 41 + 5 + 2 * ee) a n hld 0 es (nI q9) mo nd9 lf T hE hP hcap hn) (cwV 0 hC.1.2.2.2.2 gX11_judge_X2_kind rfl rfl rfl (by decide +kernel) ⟨Nat.le_of_ble_eq_true rfl, Nat.le_of_ble_eq_true rfl⟩) rfl rfl (Nat.le_of_ble_eq_true rfl) dX11_judge_60 ⟨Nat.le_of_ble_eq_true rfl, Nat.le_of_ble_eq_true rfl⟩ (fun r6 er7 => ?_)
          subst er7
          refine ax_eqi (y := 0) hkk ?_
          refine ax_iload_n hC 4 dX11_judge_63 rfl rfl ?_
          refine ax_callSp (st := [.int 0]) hC [.int 0] (c_X11_kindFor l D z B lo _ h 0 (by decide)) (va_cwS 1 hC.1.2.2.2.2 gX11_judge_X11_kindFor rfl rfl rfl (by decide +kernel) ⟨Nat.le_of_ble_eq_true rfl, Nat.le_of_ble_eq_true rfl⟩) rfl rfl (Nat.le_of_ble_eq_true rfl) dX11_judge_64 ⟨Nat.le_of_ble_eq_true rfl, Nat.le_of_ble_eq_true rfl⟩ (fun r8 er9 => ?_)
          subst er9
          refine ax_icmp_eq (tgt := 72) hC dX11_judge_67 (by decide) (fun c10 => ?_) (fun c10 => ?_)
          · refine ax_aload hC 0 dX11_judge_72 rfl ?_
            refine ax_callVp (st := []) hC [] hE.1 rfl (c_X2_isAtBrackets l D z B lo _ h (o + 41 + 5 + 2 * ee) a n hld 0 es (nI q9) mo nd9 lf T hE hP hcap hn) (cwV 0 hC.1.2.2.2.2 gX11_judge_X2_isAtBrackets rfl rfl rfl (by decide +kernel) ⟨Nat.le_of_ble_eq_true rfl, Nat.le_of_ble_eq_true rfl⟩) rfl rfl (Nat.le_of_ble_eq_true rfl) dX11_judge_74 ⟨Nat.le_of_ble_eq_true rfl, Nat.le_of_ble_eq_true rfl⟩ (fun r11 er12 => ?_)
            subst er12
            by_cases s4 : pS T n = 40
            · exact absurd (hw.2.2.2.2.1 n hn s4) (by rw [hkk]; decide)
            · refine ax_eqi (y := 0) (if_neg s4) ?_
              refine ax_iload_n hC 4 dX11_judge_77 rfl rfl ?_
              refine ax_iconst (v := 4) hC dX11_judge_78 (by decide) ?_
              refine ax_icmp_le (tgt := 86) hC dX11_judge_79 (by decide) (fun c13 => ?_) (fun c13 => ?_)
              · refine ax_iconst (v := 0) hC dX11_judge_86 (by decide) ?_
                refine ax_icmp_eq (tgt := 92) hC dX11_judge_87 (by decide) (fun c14 => ?_) (fun c14 => ?_)
                · refine ax_iload_n hC 4 dX11_judge_92 rfl rfl ?_
                  refine ax_iconst (v := 1) hC dX11_judge_93 (by decide) ?_
                  refine ax_icmp_ne (tgt := 109) hC dX11_judge_94 (by decide) (fun c15 => ?_) (fun c15 => ?_)
                  · refine ax_iload_n hC 4 dX11_judge_109 rfl rfl ?_
                    refine ax_iconst (v := 3) hC dX11_judge_110 (by decide) ?_
                    refine ax_icmp_ne (tgt := 126) hC dX11_judge_111 (by decide) (fun c16 => ?_) (fun c16 => ?_)
                    · refine ax_iload_n hC 4 dX11_judge_126 rfl rfl ?_
                      refine ax_iconst (v := 5) hC dX11_judge_127 (by decide) ?_
                      refine ax_icmp_ne (tgt := 196) hC dX11_judge_128 (by decide) (fun c17 => ?_) (fun c17 => ?_)
                      · refine ax_aload_n hC 1 dX11_judge_196 rfl rfl ?_
                        refine ax_iload_n hC 3 dX11_judge_197 rfl rfl ?_
                        refine ax_iload_n hC 4 dX11_judge_198 rfl rfl ?_
                        refine ax_callVp (st := []) hC [.int (nI ee), .int 0] hO rfl (c_X11_waitsFor_0 l D z B lo _ h o on kp sn rm st dn wt br gv ed ee a n q9 hld 0 es mo nd9 lf T ff a2 n2 q2 hld2 en2 es2 mo2 lf2 hO hRm hE hP hcap hn hee hG hff hne hx hq9 hq2) (cwV 2 hC.1.2.2.2.2 gX11_judge_X11_waitsFor rfl rfl rfl (by decide +kernel) ⟨Nat.le_of_ble_eq_true rfl, Nat.le_of_ble_eq_true rfl⟩) rfl rfl (Nat.le_of_ble_eq_true rfl) dX11_judge_199 ⟨Nat.le_of_ble_eq_true rfl, Nat.le_of_ble_eq_true rfl⟩ (fun r18 er19 => ?_)
                        subst er19
                        refine ax_if_eq (tgt := 210) hC dX11_judge_202 (by decide) (fun c20 => ?_) (fun c20 => ?_)
                        · refine ax_iconst (v := 0) hC dX11_judge_210 (by decide) ?_
                          refine ax_iret hC hr hlocks dX11_judge_211 ?_
                          exact ⟨rfl, rfl, rfl⟩
                        · exact absurd c20 (by decide)
                      · exact absurd c17 (by decide)
                    · exact absurd c16 (by decide)
                  · exact absurd c15 (by decide)
                · exact absurd c14 (by decide)
              · exact absurd c13 (by decide)
          · exact absurd c10 (by decide)
        · exact absurd c5 (by decide)
      · exact absurd rfl c4
    · exact absurd (nI_lt (a := ee) (b := 16) (by omega) (by decide)) c2

set_option maxRecDepth 100000 in
set_option maxHeartbeats 4000000 in
theorem c_X11_judge_1 (l : Launch) (D : va_G) (z : Nat → ClassId) (B : Heap) (lo hi : Nat) (h : Nat → Option va_E) (o : Nat) (on kp : Int32) (sn : Nat) (rm st dn wt br gv ed : Int32) (ee a n q9 : Nat) (hld es mo nd9 : Int32) (lf : Nat → Int32) (T : PT) (ff a2 n2 q2 : Nat) (hld2 en2 es2 mo2 : Int32) (lf2 : Nat → Int32) (x : Int32) (hO : ObS h o on kp) (hRm : RmS z h (o + 41) (nI sn) rm st dn wt br gv ed) (hE : EndS z h (o + 41 + 5 + 2 * ee) hld (some a) (nI n) 0 es (nI q9) mo lf) (hP : PrC z h a nd9 T) (hcap : pcap T ≤ 60) (hn : n < pcap T) (hee : ee < 16) (hG : EndS z h (o + 41 + 5 + 2 * ff) hld2 (some a2) (nI n2) en2 es2 (nI q2) mo2 lf2) (hff : ff < 16) (hne : ¬ ee = ff) (hx : nI ee ^^^ 1 = nI ff) (hq9 : q9 ≤ 4) (hq2 : q2 ≤ 4) (hw : wfP T) (hkk : pK T n = 1) (hx01 : x = 0 ∨ x = 1) : Met l yX11_judge wsX11_judge rmX11_judge (KP D vwCl B lo hi h (ty6 z) [.ref o, .int hld, .int (nI ee), .int 1, .int x]) (KQp D vwCl B lo hi h (ty6 z) (fun r => r = 3 ∨ r = -4 ∨ (r = 0 ∧ nI q2 < rm))) 0 0 (fun q => lo ≤ q) := by
  refine ax_met (by decide) rfl (Nat.le_of_ble_eq_true rfl) (L0 := [(0, .ref o), (1, .int hld), (2, .int (nI ee)), (3, .int 1), (4, .int x)]) rfl ?_
  intro p e s m args below meth c hC hr hlocks hnm hargs
  have iX11 : ∀ w ∈ u_ws RX11 TX11 13, w ∈ wsX11_judge := by decide +kernel
  have iX2 : ∀ w ∈ u_ws RX2 TX2 8, w ∈ wsX11_judge := by decide +kernel
  have iX9 : ∀ w ∈ u_ws RX9 TX9 11, w ∈ wsX11_judge := by decide +kernel
  obtain ⟨hRo, ef, hef, hefi⟩ := id hRm
  refine ax_iload_n hC 2 dX11_judge_0 rfl rfl ?_
  refine ax_if_lt (tgt := 16) hC dX11_judge_1 (by decide) (fun c1 => ?_) (fun c1 => ?_)
  · exact absurd c1 (nI_pos (by omega))
  · refine ax_iload_n hC 2 dX11_judge_4 rfl rfl ?_
    refine ax_aload_n hC 0 dX11_judge_5 rfl rfl ?_
    refine ax_getf (v := .ref (o + 41)) hC hO iX11 rfl 10 (by decide) (by decide +kernel) rfl rfl dX11_judge_6 ?_
    refine ax_getf (v := .ref (o + 41 + 1)) hC hRo iX9 rfl 0 (by decide) (by decide +kernel) rfl rfl dX11_judge_9 ?_
    refine ax_alen (v := 16) hC hef 3 rfl rfl dX11_judge_12 ?_
    refine ax_icmp_lt (tgt := 18) hC dX11_judge_13 (by decide) (fun c2 => ?_) (fun c2 => ?_)
    · refine ax_aload_n hC 0 dX11_judge_18 rfl rfl ?_
      refine ax_getf (v := .ref (o + 41)) hC hO iX11 rfl 10 (by decide) (by decide +kernel) rfl rfl dX11_judge_19 ?_
      refine ax_getf (v := .ref (o + 41 + 1)) hC hRo iX9 rfl 0 (by decide) (by decide +kernel) rfl rfl dX11_judge_22 ?_
      refine ax_iload_n hC 2 dX11_judge_25 rfl rfl ?_
      have b3 : vp_in (nI ee) 16 := vp_in_nI (by omega) (by omega)
      refine ax_aald hC hef 3 rfl b3 dX11_judge_26 ?_
      refine ax_eqq (y := ef ee) (by rw [nI_clamp (by omega)] <;> rfl) ?_
      refine ax_eqq (y := some (o + 41 + 5 + 2 * ee)) (hefi ee (by omega)) ?_
      refine ax_astore hC [(5, .ref (o + 41 + 5 + 2 * ee)), (0, .ref o), (1, .int hld), (2, .int (nI ee)), (3, .int 1), (4, .int x)] dX11_judge_27 (by decide) rfl ?_
      refine ax_aload hC 0 dX11_judge_29 rfl ?_
      refine ax_getf (v := .int hld) hC hE.1 iX2 rfl 0 (by decide) (by decide +kernel) rfl rfl dX11_judge_31 ?_
      refine ax_iload_n hC 2 dX11_judge_34 rfl rfl ?_
      refine ax_icmp_eq (tgt := 40) hC dX11_judge_35 (by decide) (fun c4 => ?_) (fun c4 => ?_)
      · refine ax_aload hC 0 dX11_judge_40 rfl ?_
        refine ax_getf (v := .int 0) hC hE.1 iX2 rfl 3 (by decide) (by decide +kernel) rfl rfl dX11_judge_42 ?_
        refine ax_if_eq (tgt := 50) hC dX11_judge_45 (by decide) (fun c5 => ?_) (fun c5 => ?_)
        · refine ax_aload hC 0 dX11_judge_50 rfl ?_
          refine ax_getf (v := .ref a) hC hE.1 iX2 rfl 1 (by decide) (by decide +kernel) rfl rfl dX11_judge_52 ?_
          refine ax_ifnull hC dX11_judge_55 ?_
          refine ax_aload hC 0 dX11_judge_58 rfl ?_
          refine ax_callVp (st := []) hC [] hE.1 rfl (c_X2_kind l D z B lo _ h (o + 41 + 5 + 2 * ee) a n hld 0 es (nI q9) mo nd9 lf T hE hP hcap hn) (cwV 0 hC.1.2.2.2.2 gX11_judge_X2_kind rfl rfl rfl (by decide +kernel) ⟨Nat.le_of_ble_eq_true rfl, Nat.le_of_ble_eq_true rfl⟩) rfl rfl (Nat.le_of_ble_eq_true rfl) dX11_judge_60 ⟨Nat.le_of_ble_eq_true rfl, Nat.le_of_ble_eq_true rfl⟩ (fun r6 er7 => ?_)
          subst er7
          refine ax_eqi (y := 1) hkk ?_
          refine ax_iload_n hC 4 dX11_judge_63 rfl rfl ?_
          refine ax_callSp (st := [.int 1]) hC [.int 1] (c_X11_kindFor l D z B lo _ h 1 (by decide)) (va_cwS 1 hC.1.2.2.2.2 gX11_judge_X11_kindFor rfl rfl rfl (by decide +kernel) ⟨Nat.le_of_ble_eq_true rfl, Nat.le_of_ble_eq_true rfl⟩) rfl rfl (Nat.le_of_ble_eq_true rfl) dX11_judge_64 ⟨Nat.le_of_ble_eq_true rfl, Nat.le_of_ble_eq_true rfl⟩ (fun r8 er9 => ?_)
          subst er9
          refine ax_icmp_eq (tgt := 72) hC dX11_judge_67 (by decide) (fun c10 => ?_) (fun c10 => ?_)
          · refine ax_aload hC 0 dX11_judge_72 rfl ?_
            refine ax_callVp (st := []) hC [] hE.1 rfl (c_X2_isAtBrackets l D z B lo _ h (o + 41 + 5 + 2 * ee) a n hld 0 es (nI q9) mo nd9 lf T hE hP hcap hn) (cwV 0 hC.1.2.2.2.2 gX11_judge_X2_isAtBrackets rfl rfl rfl (by decide +kernel) ⟨Nat.le_of_ble_eq_true rfl, Nat.le_of_ble_eq_true rfl⟩) rfl rfl (Nat.le_of_ble_eq_true rfl) dX11_judge_74 ⟨Nat.le_of_ble_eq_true rfl, Nat.le_of_ble_eq_true rfl⟩ (fun r11 er12 => ?_)
            subst er12
            by_cases s4 : pS T n = 40
            · refine ax_eqi (y := 1) (if_pos s4) ?_
              refine ax_iload_n hC 4 dX11_judge_77 rfl rfl ?_
              refine ax_iconst (v := 4) hC dX11_judge_78 (by decide) ?_
              refine ax_icmp_le (tgt := 86) hC dX11_judge_79 (by decide) (fun c13 => ?_) (fun c13 => ?_)
              · refine ax_iconst (v := 0) hC dX11_judge_86 (by decide) ?_
                refine ax_icmp_eq (tgt := 92) hC dX11_judge_87 (by decide) (fun c14 => ?_) (fun c14 => ?_)
                · exact absurd c14 (by decide)
                · refine ax_iconst (v := 3) hC dX11_judge_90 (by decide) ?_
                  refine ax_iret hC hr hlocks dX11_judge_91 ?_
                  exact ⟨Or.inl rfl, rfl, rfl⟩
              · exact absurd c13 (by decide)
            · refine ax_eqi (y := 0) (if_neg s4) ?_
              refine ax_iload_n hC 4 dX11_judge_77 rfl rfl ?_
              refine ax_iconst (v := 4) hC dX11_judge_78 (by decide) ?_
              refine ax_icmp_le (tgt := 86) hC dX11_judge_79 (by decide) (fun c15 => ?_) (fun c15 => ?_)
              · refine ax_iconst (v := 0) hC dX11_judge_86 (by decide) ?_
                refine ax_icmp_eq (tgt := 92) hC dX11_judge_87 (by decide) (fun c16 => ?_) (fun c16 => ?_)
                · refine ax_iload_n hC 4 dX11_judge_92 rfl rfl ?_
                  refine ax_iconst (v := 1) hC dX11_judge_93 (by decide) ?_
                  refine ax_icmp_ne (tgt := 109) hC dX11_judge_94 (by decide) (fun c17 => ?_) (fun c17 => ?_)
                  · exact absurd c17 (by decide)
                  · refine ax_aload hC 0 dX11_judge_97 rfl ?_
                    refine ax_iload hC 5 dX11_judge_99 rfl ?_
                    refine ax_callVp (st := []) hC [.int x] hE.1 rfl (c_X2_maySay l D z B lo _ h (o + 41 + 5 + 2 * ee) a n hld 0 es (nI q9) mo nd9 lf T x hx01 hE hP hcap hn) (cwV 1 hC.1.2.2.2.2 gX11_judge_X2_maySay rfl rfl rfl (by decide +kernel) ⟨Nat.le_of_ble_eq_true rfl, Nat.le_of_ble_eq_true rfl⟩) rfl rfl (Nat.le_of_ble_eq_true rfl) dX11_judge_101 ⟨Nat.le_of_ble_eq_true rfl, Nat.le_of_ble_eq_true rfl⟩ (fun r18 er19 => ?_)
                    subst er19
                    refine ax_if_ne (tgt := 109) hC dX11_judge_104 (by decide) (fun c20 => ?_) (fun c20 => ?_)
                    · refine ax_iload_n hC 4 dX11_judge_109 rfl rfl ?_
                      refine ax_iconst (v := 3) hC dX11_judge_110 (by decide) ?_
                      refine ax_icmp_ne (tgt := 126) hC dX11_judge_111 (by decide) (fun c21 => ?_) (fun c21 => ?_)
                      · refine ax_iload_n hC 4 dX11_judge_126 rfl rfl ?_
                        refine ax_iconst (v := 5) hC dX11_judge_127 (by decide) ?_
                        refine ax_icmp_ne (tgt := 196) hC dX11_judge_128 (by decide) (fun c22 => ?_) (fun c22 => ?_)
                        · refine ax_aload_n hC 1 dX11_judge_196 rfl rfl ?_
                          refine ax_iload_n hC 3 dX11_judge_197 rfl rfl ?_
                          refine ax_iload_n hC 4 dX11_judge_198 rfl rfl ?_
                          refine ax_callVp (st := []) hC [.int (nI ee), .int 1] hO rfl (c_X11_waitsFor_1 l D z B lo _ h o on kp sn rm st dn wt br gv ed ee a n q9 hld 0 es mo nd9 lf T ff a2 n2 q2 hld2 en2 es2 mo2 lf2 hO hRm hE hP hcap hn hee hG hff hne hx hq9 hq2) (cwV 2 hC.1.2.2.2.2 gX11_judge_X11_waitsFor rfl rfl rfl (by decide +kernel) ⟨Nat.le_of_ble_eq_true rfl, Nat.le_of_ble_eq_true rfl⟩) rfl rfl (Nat.le_of_ble_eq_true rfl) dX11_judge_199 ⟨Nat.le_of_ble_eq_true rfl, Nat.le_of_ble_eq_true rfl⟩ (fun r23 er24 => ?_)
                          rcases er24 with er24 | ⟨er24, hwf⟩
                          · subst er24
                            refine ax_if_eq (tgt := 210) hC dX11_judge_202 (by decide) (fun c25 => ?_) (fun c25 => ?_)
                            · exact absurd c25 (by decide)
                            · refine ax_bipush (v := (-4)) hC dX11_judge_205 (by decide) ?_
                              refine ax_goto (tgt := 211) hC dX11_judge_207 (by decide) ?_
                              refine ax_iret hC hr hlocks dX11_judge_211 ?_
                              exact ⟨Or.inr (Or.inl rfl), rfl, rfl⟩
                          · subst er24
                            refine ax_if_eq (tgt := 210) hC dX11_judge_202 (by decide) (fun c26 => ?_) (fun c26 => ?_)
                            · refine ax_iconst (v := 0) hC dX11_judge_210 (by decide) ?_
                              refine ax_iret hC hr hlocks dX11_judge_211 ?_
                              exact ⟨Or.inr (Or.inr ⟨rfl, hwf⟩), rfl, rfl⟩
                            · exact absurd c26 (by decide)
                        · exact absurd c22 (by decide)
                      · exact absurd c21 (by decide)
                    · exact absurd c20 (by decide)
                · exact absurd c16 (by decide)
              · exact absurd c15 (by decide)
          · exact absurd c10 (by decide)
        · exact absurd c5 (by decide)
      · exact absurd rfl c4
    · exact absurd (nI_lt (a := ee) (b := 16) (by omega) (by decide)) c2

set_option maxRecDepth 100000 in
set_option maxHeartbeats 4000000 in
theorem c_X11_judge_2 (l : Launch) (D : va_G) (z : Nat → ClassId) (B : Heap) (lo hi : Nat) (h : Nat → Option va_E) (o : Nat) (on kp : Int32) (sn : Nat) (rm st dn wt br gv ed : Int32) (ee a n q9 : Nat) (hld es mo nd9 : Int32) (lf : Nat → Int32) (T : PT) (ff a2 n2 q2 : Nat) (hld2 en2 es2 mo2 : Int32) (lf2 : Nat → Int32) (hO : ObS h o on kp) (hRm : RmS z h (o + 41) (nI sn) rm st dn wt br gv ed) (hE : EndS z h (o + 41 + 5 + 2 * ee) hld (some a) (nI n) 0 es (nI q9) mo lf) (hP : PrC z h a nd9 T) (hcap : pcap T ≤ 60) (hn : n < pcap T) (hee : ee < 16) (hG : EndS z h (o + 41 + 5 + 2 * ff) hld2 (some a2) (nI n2) en2 es2 (nI q2) mo2 lf2) (hff : ff < 16) (hne : ¬ ee = ff) (hx : nI ee ^^^ 1 = nI ff) (hq9 : q9 ≤ 4) (hq2 : q2 ≤ 4) (hw : wfP T) (hkk : pK T n = 2) : Met l yX11_judge wsX11_judge rmX11_judge (KP D vwCl B lo hi h (ty6 z) [.ref o, .int hld, .int (nI ee), .int 2, .int 0]) (KQp D vwCl B lo hi h (ty6 z) (fun r => r = 3 ∨ r = -4 ∨ (r = 0 ∧ ¬ nI q9 = 0))) 0 0 (fun q => lo ≤ q) := by
  refine ax_met (by decide) rfl (Nat.le_of_ble_eq_true rfl) (L0 := [(0, .ref o), (1, .int hld), (2, .int (nI ee)), (3, .int 2), (4, .int 0)]) rfl ?_
  intro p e s m args below meth c hC hr hlocks hnm hargs
  have iX11 : ∀ w ∈ u_ws RX11 TX11 13, w ∈ wsX11_judge := by decide +kernel
  have iX2 : ∀ w ∈ u_ws RX2 TX2 8, w ∈ wsX11_judge := by decide +kernel
  have iX9 : ∀ w ∈ u_ws RX9 TX9 11, w ∈ wsX11_judge := by decide +kernel
  obtain ⟨hRo, ef, hef, hefi⟩ := id hRm
  refine ax_iload_n hC 2 dX11_judge_0 rfl rfl ?_
  refine ax_if_lt (tgt := 16) hC dX11_judge_1 (by decide) (fun c1 => ?_) (fun c1 => ?_)
  · exact absurd c1 (nI_pos (by omega))
  · refine ax_iload_n hC 2 dX11_judge_4 rfl rfl ?_
    refine ax_aload_n hC 0 dX11_judge_5 rfl rfl ?_
    refine ax_getf (v := .ref (o + 41)) hC hO iX11 rfl 10 (by decide) (by decide +kernel) rfl rfl dX11_judge_6 ?_
    refine ax_getf (v := .ref (o + 41 + 1)) hC hRo iX9 rfl 0 (by decide) (by decide +kernel) rfl rfl dX11_judge_9 ?_
    refine ax_alen (v := 16) hC hef 3 rfl rfl dX11_judge_12 ?_
    refine ax_icmp_lt (tgt := 18) hC dX11_judge_13 (by decide) (fun c2 => ?_) (fun c2 => ?_)
    · refine ax_aload_n hC 0 dX11_judge_18 rfl rfl ?_
      refine ax_getf (v := .ref (o + 41)) hC hO iX11 rfl 10 (by decide) (by decide +kernel) rfl rfl dX11_judge_19 ?_
      refine ax_getf (v := .ref (o + 41 + 1)) hC hRo iX9 rfl 0 (by decide) (by decide +kernel) rfl rfl dX11_judge_22 ?_
      refine ax_iload_n hC 2 dX11_judge_25 rfl rfl ?_
      have b3 : vp_in (nI ee) 16 := vp_in_nI (by omega) (by omega)
      refine ax_aald hC hef 3 rfl b3 dX11_judge_26 ?_
      refine ax_eqq (y := ef ee) (by rw [nI_clamp (by omega)] <;> rfl) ?_
      refine ax_eqq (y := some (o + 41 + 5 + 2 * ee)) (hefi ee (by omega)) ?_
      refine ax_astore hC [(5, .ref (o + 41 + 5 + 2 * ee)), (0, .ref o), (1, .int hld), (2, .int (nI ee)), (3, .int 2), (4, .int 0)] dX11_judge_27 (by decide) rfl ?_
      refine ax_aload hC 0 dX11_judge_29 rfl ?_
      refine ax_getf (v := .int hld) hC hE.1 iX2 rfl 0 (by decide) (by decide +kernel) rfl rfl dX11_judge_31 ?_
      refine ax_iload_n hC 2 dX11_judge_34 rfl rfl ?_
      refine ax_icmp_eq (tgt := 40) hC dX11_judge_35 (by decide) (fun c4 => ?_) (fun c4 => ?_)
      · refine ax_aload hC 0 dX11_judge_40 rfl ?_
        refine ax_getf (v := .int 0) hC hE.1 iX2 rfl 3 (by decide) (by decide +kernel) rfl rfl dX11_judge_42 ?_
        refine ax_if_eq (tgt := 50) hC dX11_judge_45 (by decide) (fun c5 => ?_) (fun c5 => ?_)
        · refine ax_aload hC 0 dX11_judge_50 rfl ?_
          refine ax_getf (v := .ref a) hC hE.1 iX2 rfl 1 (by decide) (by decide +kernel) rfl rfl dX11_judge_52 ?_
          refine ax_ifnull hC dX11_judge_55 ?_
          refine ax_aload hC 0 dX11_judge_58 rfl ?_
          refine ax_callVp (st := []) hC [] hE.1 rfl (c_X2_kind l D z B lo _ h (o + 41 + 5 + 2 * ee) a n hld 0 es (nI q9) mo nd9 lf T hE hP hcap hn) (cwV 0 hC.1.2.2.2.2 gX11_judge_X2_kind rfl rfl rfl (by decide +kernel) ⟨Nat.le_of_ble_eq_true rfl, Nat.le_of_ble_eq_true rfl⟩) rfl rfl (Nat.le_of_ble_eq_true rfl) dX11_judge_60 ⟨Nat.le_of_ble_eq_true rfl, Nat.le_of_ble_eq_true rfl⟩ (fun r6 er7 => ?_)
          subst er7
          refine ax_eqi (y := 2) hkk ?_
          refine ax_iload_n hC 4 dX11_judge_63 rfl rfl ?_
          refine ax_callSp (st := [.int 2]) hC [.int 2] (c_X11_kindFor l D z B lo _ h 2 (by decide)) (va_cwS 1 hC.1.2.2.2.2 gX11_judge_X11_kindFor rfl rfl rfl (by decide +kernel) ⟨Nat.le_of_ble_eq_true rfl, Nat.le_of_ble_eq_true rfl⟩) rfl rfl (Nat.le_of_ble_eq_true rfl) dX11_judge_64 ⟨Nat.le_of_ble_eq_true rfl, Nat.le_of_ble_eq_true rfl⟩ (fun r8 er9 => ?_)
          subst er9
          refine ax_icmp_eq (tgt := 72) hC dX11_judge_67 (by decide) (fun c10 => ?_) (fun c10 => ?_)
          · refine ax_aload hC 0 dX11_judge_72 rfl ?_
            refine ax_callVp (st := []) hC [] hE.1 rfl (c_X2_isAtBrackets l D z B lo _ h (o + 41 + 5 + 2 * ee) a n hld 0 es (nI q9) mo nd9 lf T hE hP hcap hn) (cwV 0 hC.1.2.2.2.2 gX11_judge_X2_isAtBrackets rfl rfl rfl (by decide +kernel) ⟨Nat.le_of_ble_eq_true rfl, Nat.le_of_ble_eq_true rfl⟩) rfl rfl (Nat.le_of_ble_eq_true rfl) dX11_judge_74 ⟨Nat.le_of_ble_eq_true rfl, Nat.le_of_ble_eq_true rfl⟩ (fun r11 er12 => ?_)
            subst er12
            by_cases s4 : pS T n = 40
            · refine ax_eqi (y := 1) (if_pos s4) ?_
              refine ax_iload_n hC 4 dX11_judge_77 rfl rfl ?_
              refine ax_iconst (v := 4) hC dX11_judge_78 (by decide) ?_
              refine ax_icmp_le (tgt := 86) hC dX11_judge_79 (by decide) (fun c13 => ?_) (fun c13 => ?_)
              · refine ax_iconst (v := 0) hC dX11_judge_86 (by decide) ?_
                refine ax_icmp_eq (tgt := 92) hC dX11_judge_87 (by decide) (fun c14 => ?_) (fun c14 => ?_)
                · exact absurd c14 (by decide)
                · refine ax_iconst (v := 3) hC dX11_judge_90 (by decide) ?_
                  refine ax_iret hC hr hlocks dX11_judge_91 ?_
                  exact ⟨Or.inl rfl, rfl, rfl⟩
              · exact absurd c13 (by decide)
            · refine ax_eqi (y := 0) (if_neg s4) ?_
              refine ax_iload_n hC 4 dX11_judge_77 rfl rfl ?_
              refine ax_iconst (v := 4) hC dX11_judge_78 (by decide) ?_
              refine ax_icmp_le (tgt := 86) hC dX11_judge_79 (by decide) (fun c15 => ?_) (fun c15 => ?_)
              · refine ax_iconst (v := 0) hC dX11_judge_86 (by decide) ?_
                refine ax_icmp_eq (tgt := 92) hC dX11_judge_87 (by decide) (fun c16 => ?_) (fun c16 => ?_)
                · refine ax_iload_n hC 4 dX11_judge_92 rfl rfl ?_
                  refine ax_iconst (v := 1) hC dX11_judge_93 (by decide) ?_
                  refine ax_icmp_ne (tgt := 109) hC dX11_judge_94 (by decide) (fun c17 => ?_) (fun c17 => ?_)
                  · refine ax_iload_n hC 4 dX11_judge_109 rfl rfl ?_
                    refine ax_iconst (v := 3) hC dX11_judge_110 (by decide) ?_
                    refine ax_icmp_ne (tgt := 126) hC dX11_judge_111 (by decide) (fun c18 => ?_) (fun c18 => ?_)
                    · refine ax_iload_n hC 4 dX11_judge_126 rfl rfl ?_
                      refine ax_iconst (v := 5) hC dX11_judge_127 (by decide) ?_
                      refine ax_icmp_ne (tgt := 196) hC dX11_judge_128 (by decide) (fun c19 => ?_) (fun c19 => ?_)
                      · refine ax_aload_n hC 1 dX11_judge_196 rfl rfl ?_
                        refine ax_iload_n hC 3 dX11_judge_197 rfl rfl ?_
                        refine ax_iload_n hC 4 dX11_judge_198 rfl rfl ?_
                        refine ax_callVp (st := []) hC [.int (nI ee), .int 2] hO rfl (c_X11_waitsFor_2 l D z B lo _ h o on kp sn rm st dn wt br gv ed ee a n q9 hld 0 es mo nd9 lf T ff a2 n2 q2 hld2 en2 es2 mo2 lf2 hO hRm hE hP hcap hn hee hG hff hne hx hq9 hq2) (cwV 2 hC.1.2.2.2.2 gX11_judge_X11_waitsFor rfl rfl rfl (by decide +kernel) ⟨Nat.le_of_ble_eq_true rfl, Nat.le_of_ble_eq_true rfl⟩) rfl rfl (Nat.le_of_ble_eq_true rfl) dX11_judge_199 ⟨Nat.le_of_ble_eq_true rfl, Nat.le_of_ble_eq_true rfl⟩ (fun r20 er21 => ?_)
                        rcases er21 with er21 | ⟨er21, hwf⟩
                        · subst er21
                          refine ax_if_eq (tgt := 210) hC dX11_judge_202 (by decide) (fun c22 => ?_) (fun c22 => ?_)
                          · exact absurd c22 (by decide)
                          · refine ax_bipush (v := (-4)) hC dX11_judge_205 (by decide) ?_
                            refine ax_goto (tgt := 211) hC dX11_judge_207 (by decide) ?_
                            refine ax_iret hC hr hlocks dX11_judge_211 ?_
                            exact ⟨Or.inr (Or.inl rfl), rfl, rfl⟩
                        · subst er21
                          refine ax_if_eq (tgt := 210) hC dX11_judge_202 (by decide) (fun c23 => ?_) (fun c23 => ?_)
                          · refine ax_iconst (v := 0) hC dX11_judge_210 (by decide) ?_
                            refine ax_iret hC hr hlocks dX11_judge_211 ?_
                            exact ⟨Or.inr (Or.inr ⟨rfl, hwf⟩), rfl, rfl⟩
                          · exact absurd c23 (by decide)
                      · exact absurd c19 (by decide)
                    · exact absurd c18 (by decide)
                  · exact absurd c17 (by decide)
                · exact absurd c16 (by decide)
              · exact absurd c15 (by decide)
          · exact absurd c10 (by decide)
        · exact absurd c5 (by decide)
      · exact absurd rfl c4
    · exact absurd (nI_lt (a := ee) (b := 16) (by omega) (by decide)) c2

set_option maxRecDepth 100000 in
set_option maxHeartbeats 4000000 in
theorem c_X11_judge_3 (l : Launch) (D : va_G) (z : Nat → ClassId) (B : Heap) (lo hi : Nat) (h : Nat → Option va_E) (o : Nat) (on kp : Int32) (sn : Nat) (rm st dn wt br gv ed : Int32) (ee a n q9 : Nat) (hld es mo nd9 : Int32) (lf : Nat → Int32) (T : PT) (ff a2 n2 q2 : Nat) (hld2 en2 es2 mo2 : Int32) (lf2 : Nat → Int32) (j : Nat) (hO : ObS h o on kp) (hRm : RmS z h (o + 41) (nI sn) rm st dn wt br gv ed) (hE : EndS z h (o + 41 + 5 + 2 * ee) hld (some a) (nI n) 0 es (nI q9) mo lf) (hP : PrC z h a nd9 T) (hcap : pcap T ≤ 60) (hn : n < pcap T) (hee : ee < 16) (hG : EndS z h (o + 41 + 5 + 2 * ff) hld2 (some a2) (nI n2) en2 es2 (nI q2) mo2 lf2) (hff : ff < 16) (hne : ¬ ee = ff) (hx : nI ee ^^^ 1 = nI ff) (hq9 : q9 ≤ 4) (hq2 : q2 ≤ 4) (hw : wfP T) (hkk : pK T n = 3) (hj : j < 26) (hb : ¬ (pLb T n >>> (nI j &&& 31)) &&& 1 = 0) : Met l yX11_judge wsX11_judge rmX11_judge (KP D vwCl B lo hi h (ty6 z) [.ref o, .int hld, .int (nI ee), .int 3, .int (nI (97 + j))]) (KQp D vwCl B lo hi h (ty6 z) (fun r => r = -4 ∨ (r = 0 ∧ nI q2 < rm))) 0 0 (fun q => lo ≤ q) := by
  refine ax_met (by decide) rfl (Nat.le_of_ble_eq_true rfl) (L0 := [(0, .ref o), (1, .int hld), (2, .int (nI ee)), (3, .int 3), (4, .int (nI (97 + j)))]) rfl ?_
  intro p e s m args below meth c hC hr hlocks hnm hargs
  have iX11 : ∀ w ∈ u_ws RX11 TX11 13, w ∈ wsX11_judge := by decide +kernel
  have iX2 : ∀ w ∈ u_ws RX2 TX2 8, w ∈ wsX11_judge := by decide +kernel
  have iX9 : ∀ w ∈ u_ws RX9 TX9 11, w ∈ wsX11_judge := by decide +kernel
  obtain ⟨hRo, ef, hef, hefi⟩ := id hRm
  refine ax_iload_n hC 2 dX11_judge_0 rfl rfl ?_
  refine ax_if_lt (tgt := 16) hC dX11_judge_1 (by decide) (fun c1 => ?_) (fun c1 => ?_)
  · exact absurd c1 (nI_pos (by omega))
  · refine ax_iload_n hC 2 dX11_judge_4 rfl rfl ?_
    refine ax_aload_n hC 0 dX11_judge_5 rfl rfl ?_
    refine ax_getf (v := .ref (o + 41)) hC hO iX11 rfl 10 (by decide) (by decide +kernel) rfl rfl dX11_judge_6 ?_
    refine ax_getf (v := .ref (o + 41 + 1)) hC hRo iX9 rfl 0 (by decide) (by decide +kernel) rfl rfl dX11_judge_9 ?_
    refine ax_alen (v := 16) hC hef 3 rfl rfl dX11_judge_12 ?_
    refine ax_icmp_lt (tgt := 18) hC dX11_judge_13 (by decide) (fun c2 => ?_) (fun c2 => ?_)
    · refine ax_aload_n hC 0 dX11_judge_18 rfl rfl ?_
      refine ax_getf (v := .ref (o + 41)) hC hO iX11 rfl 10 (by decide) (by decide +kernel) rfl rfl dX11_judge_19 ?_
      refine ax_getf (v := .ref (o + 41 + 1)) hC hRo iX9 rfl 0 (by decide) (by decide +kernel) rfl rfl dX11_judge_22 ?_
      refine ax_iload_n hC 2 dX11_judge_25 rfl rfl ?_
      have b3 : vp_in (nI ee) 16 := vp_in_nI (by omega) (by omega)
      refine ax_aald hC hef 3 rfl b3 dX11_judge_26 ?_
      refine ax_eqq (y := ef ee) (by rw [nI_clamp (by omega)] <;> rfl) ?_
      refine ax_eqq (y := some (o + 41 + 5 + 2 * ee)) (hefi ee (by omega)) ?_
      refine ax_astore hC [(5, .ref (o + 41 + 5 + 2 * ee)), (0, .ref o), (1, .int hld), (2, .int (nI ee)), (3, .int 3), (4, .int (nI (97 + j)))] dX11_judge_27 (by decide) rfl ?_
      refine ax_aload hC 0 dX11_judge_29 rfl ?_
      refine ax_getf (v := .int hld) hC hE.1 iX2 rfl 0 (by decide) (by decide +kernel) rfl rfl dX11_judge_31 ?_
      refine ax_iload_n hC 2 dX11_judge_34 rfl rfl ?_
      refine ax_icmp_eq (tgt := 40) hC dX11_judge_35 (by decide) (fun c4 => ?_) (fun c4 => ?_)
      · refine ax_aload hC 0 dX11_judge_40 rfl ?_
        refine ax_getf (v := .int 0) hC hE.1 iX2 rfl 3 (by decide) (by decide +kernel) rfl rfl dX11_judge_42 ?_
        refine ax_if_eq (tgt := 50) hC dX11_judge_45 (by decide) (fun c5 => ?_) (fun c5 => ?_)
        · refine ax_aload hC 0 dX11_judge_50 rfl ?_
          refine ax_getf (v := .ref a) hC hE.1 iX2 rfl 1 (by decide) (by decide +kernel) rfl rfl dX11_judge_52 ?_
          refine ax_ifnull hC dX11_judge_55 ?_
          refine ax_aload hC 0 dX11_judge_58 rfl ?_
          refine ax_callVp (st := []) hC [] hE.1 rfl (c_X2_kind l D z B lo _ h (o + 41 + 5 + 2 * ee) a n hld 0 es (nI q9) mo nd9 lf T hE hP hcap hn) (cwV 0 hC.1.2.2.2.2 gX11_judge_X2_kind rfl rfl rfl (by decide +kernel) ⟨Nat.le_of_ble_eq_true rfl, Nat.le_of_ble_eq_true rfl⟩) rfl rfl (Nat.le_of_ble_eq_true rfl) dX11_judge_60 ⟨Nat.le_of_ble_eq_true rfl, Nat.le_of_ble_eq_true rfl⟩ (fun r6 er7 => ?_)
          subst er7
          refine ax_eqi (y := 3) hkk ?_
          refine ax_iload_n hC 4 dX11_judge_63 rfl rfl ?_
          refine ax_callSp (st := [.int 3]) hC [.int 3] (c_X11_kindFor l D z B lo _ h 3 (by decide)) (va_cwS 1 hC.1.2.2.2.2 gX11_judge_X11_kindFor rfl rfl rfl (by decide +kernel) ⟨Nat.le_of_ble_eq_true rfl, Nat.le_of_ble_eq_true rfl⟩) rfl rfl (Nat.le_of_ble_eq_true rfl) dX11_judge_64 ⟨Nat.le_of_ble_eq_true rfl, Nat.le_of_ble_eq_true rfl⟩ (fun r8 er9 => ?_)
          subst er9
          refine ax_icmp_eq (tgt := 72) hC dX11_judge_67 (by decide) (fun c10 => ?_) (fun c10 => ?_)
          · refine ax_aload hC 0 dX11_judge_72 rfl ?_
            refine ax_callVp (st := []) hC [] hE.1 rfl (c_X2_isAtBrackets l D z B lo _ h (o + 41 + 5 + 2 * ee) a n hld 0 es (nI q9) mo nd9 lf T hE hP hcap hn) (cwV 0 hC.1.2.2.2.2 gX11_judge_X2_isAtBrackets rfl rfl rfl (by decide +kernel) ⟨Nat.le_of_ble_eq_true rfl, Nat.le_of_ble_eq_true rfl⟩) rfl rfl (Nat.le_of_ble_eq_true rfl) dX11_judge_74 ⟨Nat.le_of_ble_eq_true rfl, Nat.le_of_ble_eq_true rfl⟩ (fun r11 er12 => ?_)
            subst er12
            by_cases s4 : pS T n = 40
            · exact absurd (hw.2.2.2.2.1 n hn s4) (by rw [hkk]; decide)
            · refine ax_eqi (y := 0) (if_neg s4) ?_
              refine ax_iload_n hC 4 dX11_judge_77 rfl rfl ?_
              refine ax_iconst (v := 4) hC dX11_judge_78 (by decide) ?_
              refine ax_icmp_le (tgt := 86) hC dX11_judge_79 (by decide) (fun c13 => ?_) (fun c13 => ?_)
              · refine ax_iconst (v := 0) hC dX11_judge_86 (by decide) ?_
                refine ax_icmp_eq (tgt := 92) hC dX11_judge_87 (by decide) (fun c14 => ?_) (fun c14 => ?_)
                · refine ax_iload_n hC 4 dX11_judge_92 rfl rfl ?_
                  refine ax_iconst (v := 1) hC dX11_judge_93 (by decide) ?_
                  refine ax_icmp_ne (tgt := 109) hC dX11_judge_94 (by decide) (fun c15 => ?_) (fun c15 => ?_)
                  · refine ax_iload_n hC 4 dX11_judge_109 rfl rfl ?_
                    refine ax_iconst (v := 3) hC dX11_judge_110 (by decide) ?_
                    refine ax_icmp_ne (tgt := 126) hC dX11_judge_111 (by decide) (fun c16 => ?_) (fun c16 => ?_)
                    · exact absurd c16 (by decide)
                    · refine ax_aload hC 0 dX11_judge_114 rfl ?_
                      refine ax_iload hC 5 dX11_judge_116 rfl ?_
                      refine ax_callVp (st := []) hC [.int (nI (97 + j))] hE.1 rfl (c_X2_mayPick l D z B lo _ h (o + 41 + 5 + 2 * ee) a n hld 0 es (nI q9) mo nd9 lf T j hE hP hcap hn hj hb) (cwV 1 hC.1.2.2.2.2 gX11_judge_X2_mayPick rfl rfl rfl (by decide +kernel) ⟨Nat.le_of_ble_eq_true rfl, Nat.le_of_ble_eq_true rfl⟩) rfl rfl (Nat.le_of_ble_eq_true rfl) dX11_judge_118 ⟨Nat.le_of_ble_eq_true rfl, Nat.le_of_ble_eq_true rfl⟩ (fun r17 er18 => ?_)
                      subst er18
                      refine ax_if_ne (tgt := 126) hC dX11_judge_121 (by decide) (fun c19 => ?_) (fun c19 => ?_)
                      · refine ax_iload_n hC 4 dX11_judge_126 rfl rfl ?_
                        refine ax_iconst (v := 5) hC dX11_judge_127 (by decide) ?_
                        refine ax_icmp_ne (tgt := 196) hC dX11_judge_128 (by decide) (fun c20 => ?_) (fun c20 => ?_)
                        · refine ax_aload_n hC 1 dX11_judge_196 rfl rfl ?_
                          refine ax_iload_n hC 3 dX11_judge_197 rfl rfl ?_
                          refine ax_iload_n hC 4 dX11_judge_198 rfl rfl ?_
                          refine ax_callVp (st := []) hC [.int (nI ee), .int 3] hO rfl (c_X11_waitsFor_3 l D z B lo _ h o on kp sn rm st dn wt br gv ed ee a n q9 hld 0 es mo nd9 lf T ff a2 n2 q2 hld2 en2 es2 mo2 lf2 hO hRm hE hP hcap hn hee hG hff hne hx hq9 hq2) (cwV 2 hC.1.2.2.2.2 gX11_judge_X11_waitsFor rfl rfl rfl (by decide +kernel) ⟨Nat.le_of_ble_eq_true rfl, Nat.le_of_ble_eq_true rfl⟩) rfl rfl (Nat.le_of_ble_eq_true rfl) dX11_judge_199 ⟨Nat.le_of_ble_eq_true rfl, Nat.le_of_ble_eq_true rfl⟩ (fun r21 er22 => ?_)
                          rcases er22 with er22 | ⟨er22, hwf⟩
                          · subst er22
                            refine ax_if_eq (tgt := 210) hC dX11_judge_202 (by decide) (fun c23 => ?_) (fun c23 => ?_)
                            · exact absurd c23 (by decide)
                            · refine ax_bipush (v := (-4)) hC dX11_judge_205 (by decide) ?_
                              refine ax_goto (tgt := 211) hC dX11_judge_207 (by decide) ?_
                              refine ax_iret hC hr hlocks dX11_judge_211 ?_
                              exact ⟨Or.inl rfl, rfl, rfl⟩
                          · subst er22
                            refine ax_if_eq (tgt := 210) hC dX11_judge_202 (by decide) (fun c24 => ?_) (fun c24 => ?_)
                            · refine ax_iconst (v := 0) hC dX11_judge_210 (by decide) ?_
                              refine ax_iret hC hr hlocks dX11_judge_211 ?_
                              exact ⟨Or.inr ⟨rfl, hwf⟩, rfl, rfl⟩
                            · exact absurd c24 (by decide)
                        · exact absurd c20 (by decide)
                      · exact absurd c19 (by decide)
                  · exact absurd c15 (by decide)
                · exact absurd c14 (by decide)
              · exact absurd c13 (by decide)
          · exact absurd c10 (by decide)
        · exact absurd c5 (by decide)
      · exact absurd rfl c4
    · exact absurd (nI_lt (a := ee) (b := 16) (by omega) (by decide)) c2

set_option maxRecDepth 100000 in
set_option maxHeartbeats 4000000 in
theorem c_X11_judge_4 (l : Launch) (D : va_G) (z : Nat → ClassId) (B : Heap) (lo hi : Nat) (h : Nat → Option va_E) (o : Nat) (on kp : Int32) (sn : Nat) (rm st dn wt br gv ed : Int32) (ee a n q9 : Nat) (hld es mo nd9 : Int32) (lf : Nat → Int32) (T : PT) (ff a2 n2 q2 : Nat) (hld2 en2 es2 mo2 : Int32) (lf2 : Nat → Int32) (hO : ObS h o on kp) (hRm : RmS z h (o + 41) (nI sn) rm st dn wt br gv ed) (hE : EndS z h (o + 41 + 5 + 2 * ee) hld (some a) (nI n) 0 es (nI q9) mo lf) (hP : PrC z h a nd9 T) (hcap : pcap T ≤ 60) (hn : n < pcap T) (hee : ee < 16) (hG : EndS z h (o + 41 + 5 + 2 * ff) hld2 (some a2) (nI n2) en2 es2 (nI q2) mo2 lf2) (hff : ff < 16) (hne : ¬ ee = ff) (hx : nI ee ^^^ 1 = nI ff) (hq9 : q9 ≤ 4) (hq2 : q2 ≤ 4) (hw : wfP T) (hkk : pK T n = 4) : Met l yX11_judge wsX11_judge rmX11_judge (KP D vwCl B lo hi h (ty6 z) [.ref o, .int hld, .int (nI ee), .int 4, .int 0]) (KQp D vwCl B lo hi h (ty6 z) (fun r => r = -4 ∨ (r = 0 ∧ ¬ nI q9 = 0))) 0 0 (fun q => lo ≤ q) := by
  refine ax_met (by decide) rfl (Nat.le_of_ble_eq_true rfl) (L0 := [(0, .ref o), (1, .int hld), (2, .int (nI ee)), (3, .int 4), (4, .int 0)]) rfl ?_
  intro p e s m args below meth c hC hr hlocks hnm hargs
  have iX11 : ∀ w ∈ u_ws RX11 TX11 13, w ∈ wsX11_judge := by decide +kernel
  have iX2 : ∀ w ∈ u_ws RX2 TX2 8, w ∈ wsX11_judge := by decide +kernel
  have iX9 : ∀ w ∈ u_ws RX9 TX9 11, w ∈ wsX11_judge := by decide +kernel
  obtain ⟨hRo, ef, hef, hefi⟩ := id hRm
  refine ax_iload_n hC 2 dX11_judge_0 rfl rfl ?_
  refine ax_if_lt (tgt := 16) hC dX11_judge_1 (by decide) (fun c1 => ?_) (fun c1 => ?_)
  · exact absurd c1 (nI_pos (by omega))
  · refine ax_iload_n hC 2 dX11_judge_4 rfl rfl ?_
    refine ax_aload_n hC 0 dX11_judge_5 rfl rfl ?_
    refine ax_getf (v := .ref (o + 41)) hC hO iX11 rfl 10 (by decide) (by decide +kernel) rfl rfl dX11_judge_6 ?_
    refine ax_getf (v := .ref (o + 41 + 1)) hC hRo iX9 rfl 0 (by decide) (by decide +kernel) rfl rfl dX11_judge_9 ?_
    refine ax_alen (v := 16) hC hef 3 rfl rfl dX11_judge_12 ?_
    refine ax_icmp_lt (tgt := 18) hC dX11_judge_13 (by decide) (fun c2 => ?_) (fun c2 => ?_)
    · refine ax_aload_n hC 0 dX11_judge_18 rfl rfl ?_
      refine ax_getf (v := .ref (o + 41)) hC hO iX11 rfl 10 (by decide) (by decide +kernel) rfl rfl dX11_judge_19 ?_
      refine ax_getf (v := .ref (o + 41 + 1)) hC hRo iX9 rfl 0 (by decide) (by decide +kernel) rfl rfl dX11_judge_22 ?_
      refine ax_iload_n hC 2 dX11_judge_25 rfl rfl ?_
      have b3 : vp_in (nI ee) 16 := vp_in_nI (by omega) (by omega)
      refine ax_aald hC hef 3 rfl b3 dX11_judge_26 ?_
      refine ax_eqq (y := ef ee) (by rw [nI_clamp (by omega)] <;> rfl) ?_
      refine ax_eqq (y := some (o + 41 + 5 + 2 * ee)) (hefi ee (by omega)) ?_
      refine ax_astore hC [(5, .ref (o + 41 + 5 + 2 * ee)), (0, .ref o), (1, .int hld), (2, .int (nI ee)), (3, .int 4), (4, .int 0)] dX11_judge_27 (by decide) rfl ?_
      refine ax_aload hC 0 dX11_judge_29 rfl ?_
      refine ax_getf (v := .int hld) hC hE.1 iX2 rfl 0 (by decide) (by decide +kernel) rfl rfl dX11_judge_31 ?_
      refine ax_iload_n hC 2 dX11_judge_34 rfl rfl ?_
      refine ax_icmp_eq (tgt := 40) hC dX11_judge_35 (by decide) (fun c4 => ?_) (fun c4 => ?_)
      · refine ax_aload hC 0 dX11_judge_40 rfl ?_
        refine ax_getf (v := .int 0) hC hE.1 iX2 rfl 3 (by decide) (by decide +kernel) rfl rfl dX11_judge_42 ?_
        refine ax_if_eq (tgt := 50) hC dX11_judge_45 (by decide) (fun c5 => ?_) (fun c5 => ?_)
        · refine ax_aload hC 0 dX11_judge_50 rfl ?_
          refine ax_getf (v := .ref a) hC hE.1 iX2 rfl 1 (by decide) (by decide +kernel) rfl rfl dX11_judge_52 ?_
          refine ax_ifnull hC dX11_judge_55 ?_
          refine ax_aload hC 0 dX11_judge_58 rfl ?_
          refine ax_callVp (st := []) hC [] hE.1 rfl (c_X2_kind l D z B lo _ h (o + 41 + 5 + 2 * ee) a n hld 0 es (nI q9) mo nd9 lf T hE hP hcap hn) (cwV 0 hC.1.2.2.2.2 gX11_judge_X2_kind rfl rfl rfl (by decide +kernel) ⟨Nat.le_of_ble_eq_true rfl, Nat.le_of_ble_eq_true rfl⟩) rfl rfl (Nat.le_of_ble_eq_true rfl) dX11_judge_60 ⟨Nat.le_of_ble_eq_true rfl, Nat.le_of_ble_eq_true rfl⟩ (fun r6 er7 => ?_)
          subst er7
          refine ax_eqi (y := 4) hkk ?_
          refine ax_iload_n hC 4 dX11_judge_63 rfl rfl ?_
          refine ax_callSp (st := [.int 4]) hC [.int 4] (c_X11_kindFor l D z B lo _ h 4 (by decide)) (va_cwS 1 hC.1.2.2.2.2 gX11_judge_X11_kindFor rfl rfl rfl (by decide +kernel) ⟨Nat.le_of_ble_eq_true rfl, Nat.le_of_ble_eq_true rfl⟩) rfl rfl (Nat.le_of_ble_eq_true rfl) dX11_judge_64 ⟨Nat.le_of_ble_eq_true rfl, Nat.le_of_ble_eq_true rfl⟩ (fun r8 er9 => ?_)
          subst er9
          refine ax_icmp_eq (tgt := 72) hC dX11_judge_67 (by decide) (fun c10 => ?_) (fun c10 => ?_)
          · refine ax_aload hC 0 dX11_judge_72 rfl ?_
            refine ax_callVp (st := []) hC [] hE.1 rfl (c_X2_isAtBrackets l D z B lo _ h (o + 41 + 5 + 2 * ee) a n hld 0 es (nI q9) mo nd9 lf T hE hP hcap hn) (cwV 0 hC.1.2.2.2.2 gX11_judge_X2_isAtBrackets rfl rfl rfl (by decide +kernel) ⟨Nat.le_of_ble_eq_true rfl, Nat.le_of_ble_eq_true rfl⟩) rfl rfl (Nat.le_of_ble_eq_true rfl) dX11_judge_74 ⟨Nat.le_of_ble_eq_true rfl, Nat.le_of_ble_eq_true rfl⟩ (fun r11 er12 => ?_)
            subst er12
            by_cases s4 : pS T n = 40
            · exact absurd (hw.2.2.2.2.1 n hn s4) (by rw [hkk]; decide)
            · refine ax_eqi (y := 0) (if_neg s4) ?_
              refine ax_iload_n hC 4 dX11_judge_77 rfl rfl ?_
              refine ax_iconst (v := 4) hC dX11_judge_78 (by decide) ?_
              refine ax_icmp_le (tgt := 86) hC dX11_judge_79 (by decide) (fun c13 => ?_) (fun c13 => ?_)
              · refine ax_iconst (v := 0) hC dX11_judge_86 (by decide) ?_
                refine ax_icmp_eq (tgt := 92) hC dX11_judge_87 (by decide) (fun c14 => ?_) (fun c14 => ?_)
                · refine ax_iload_n hC 4 dX11_judge_92 rfl rfl ?_
                  refine ax_iconst (v := 1) hC dX11_judge_93 (by decide) ?_
                  refine ax_icmp_ne (tgt := 109) hC dX11_judge_94 (by decide) (fun c15 => ?_) (fun c15 => ?_)
                  · refine ax_iload_n hC 4 dX11_judge_109 rfl rfl ?_
                    refine ax_iconst (v := 3) hC dX11_judge_110 (by decide) ?_
                    refine ax_icmp_ne (tgt := 126) hC dX11_judge_111 (by decide) (fun c16 => ?_) (fun c16 => ?_)
                    · refine ax_iload_n hC 4 dX11_judge_126 rfl rfl ?_
                      refine ax_iconst (v := 5) hC dX11_judge_127 (by decide) ?_
                      refine ax_icmp_ne (tgt := 196) hC dX11_judge_128 (by decide) (fun c17 => ?_) (fun c17 => ?_)
                      · refine ax_aload_n hC 1 dX11_judge_196 rfl rfl ?_
                        refine ax_iload_n hC 3 dX11_judge_197 rfl rfl ?_
                        refine ax_iload_n hC 4 dX11_judge_198 rfl rfl ?_
                        refine ax_callVp (st := []) hC [.int (nI ee), .int 4] hO rfl (c_X11_waitsFor_4 l D z B lo _ h o on kp sn rm st dn wt br gv ed ee a n q9 hld 0 es mo nd9 lf T ff a2 n2 q2 hld2 en2 es2 mo2 lf2 hO hRm hE hP hcap hn hee hG hff hne hx hq9 hq2) (cwV 2 hC.1.2.2.2.2 gX11_judge_X11_waitsFor rfl rfl rfl (by decide +kernel) ⟨Nat.le_of_ble_eq_true rfl, Nat.le_of_ble_eq_true rfl⟩) rfl rfl (Nat.le_of_ble_eq_true rfl) dX11_judge_199 ⟨Nat.le_of_ble_eq_true rfl, Nat.le_of_ble_eq_true rfl⟩ (fun r18 er19 => ?_)
                        rcases er19 with er19 | ⟨er19, hwf⟩
                        · subst er19
                          refine ax_if_eq (tgt := 210) hC dX11_judge_202 (by decide) (fun c20 => ?_) (fun c20 => ?_)
                          · exact absurd c20 (by decide)
                          · refine ax_bipush (v := (-4)) hC dX11_judge_205 (by decide) ?_
                            refine ax_goto (tgt := 211) hC dX11_judge_207 (by decide) ?_
                            refine ax_iret hC hr hlocks dX11_judge_211 ?_
                            exact ⟨Or.inl rfl, rfl, rfl⟩
                        · subst er19
                          refine ax_if_eq (tgt := 210) hC dX11_judge_202 (by decide) (fun c21 => ?_) (fun c21 => ?_)
                          · refine ax_iconst (v := 0) hC dX11_judge_210 (by decide) ?_
                            refine ax_iret hC hr hlocks dX11_judge_211 ?_
                            exact ⟨Or.inr ⟨rfl, hwf⟩, rfl, rfl⟩
                          · exact absurd c21 (by decide)
                      · exact absurd c17 (by decide)
                    · exact absurd c16 (by decide)
                  · exact absurd c15 (by decide)
                · exact absurd c14 (by decide)
              · exact absurd c13 (by decide)
          · exact absurd c10 (by decide)
        · exact absurd c5 (by decide)
      · exact absurd rfl c4
    · exact absurd (nI_lt (a := ee) (b := 16) (by omega) (by decide)) c2
