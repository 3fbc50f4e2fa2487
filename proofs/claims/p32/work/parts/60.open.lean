abbrev rmX11_end : Room := { frames := 5, cells := 0, slots := 0, locals := 115 }
set_option maxRecDepth 100000 in
set_option maxHeartbeats 4000000 in
theorem c_X11_end (l : Launch) (D : va_G) (z : Nat → ClassId) (B : Heap) (lo hi : Nat) (h : Nat → Option va_E) (o : Nat) (on kp : Int32) (sn rr pn : Nat) (rm st dn wt br gv ed : Int32) (ee a n q9 : Nat) (es mo nd9 : Int32) (lf : Nat → Int32) (T : PT) (ff a2 n2 q2 : Nat) (hld2 en2 es2 mo2 : Int32) (lf2 : Nat → Int32) (T2 : PT) (pa st9 nu en9 ca : Int32) (cf : Nat → Int32) (hO : ObS h o on kp) (hRm : RmS z h (o + 41) (nI sn) rm st dn wt br gv ed) (hE : EndS z h (o + 41 + 5 + 2 * ee) (nI pn) (some a) (nI n) 0 es (nI q9) mo lf) (hP : PrC z h a nd9 T) (hcap : pcap T ≤ 60) (hn : n < pcap T) (hee : ee < 16) (hG : EndS z h (o + 41 + 5 + 2 * ff) hld2 (some a2) (nI n2) en2 es2 (nI q2) mo2 lf2) (hff : ff < 16) (hne : ¬ ee = ff) (hx : nI ee ^^^ 1 = nI ff) (hq9 : q9 ≤ 4) (hq2 : q2 ≤ 4) (hB : BlmS z h (o + 41 + 3) pa st9 nu en9 ca cf) (hw : wfP T) (hwD : wfD T) (hst : stK (pK T n)) (hkk : pK T n = 0) (hoa : o + 147 ≤ a) (hn2 : n2 < pcap T2) (hst2 : stK (pK T2 n2)) (hlf : ∀ j, j < q9 → 0 ≤ lf j) (hlf2 : ∀ j, j < q2 → 0 ≤ lf2 j) (hen2 : en2 = 0 ∨ en2 = 1) (hsum : st = dn + wt + br) (hrm : rm = nI rr) (hrr : rr ≤ 4) (hpn : pn < 4) (hsn : sn ≤ 8) (hes : ee < 2 * sn) : Met l yX11_end wsX11_end rmX11_end (KP D vwCl B lo hi h (ty6 z) [.ref o, .int (nI pn), .int (nI ee)]) (KQi D vwCl B lo (ty6 z) (EnP z h hi o sn ee ff rm gv (nI pn) hld2 a a2 T T2)) 0 0 (fun q => lo ≤ q) := by
  refine ax_met (by decide) rfl (Nat.le_of_ble_eq_true rfl) (L0 := [(0, .ref o), (1, .int (nI pn)), (2, .int (nI ee))]) rfl ?_
  intro p e s m args below meth c hC hr hlocks hnm hargs
  refine ax_aload_n hC 0 dX11_end_0 rfl rfl ?_
  refine ax_iload_n hC 1 dX11_end_1 rfl rfl ?_
  refine ax_callVp (st := []) hC [.int (nI pn)] hO rfl (c_X11_isParty l D z B lo _ h o on kp pn hO hpn) (cwV 1 hC.1.2.2.2.2 gX11_end_X11_isParty rfl rfl rfl (by decide +kernel) ⟨Nat.le_of_ble_eq_true rfl, Nat.le_of_ble_eq_true rfl⟩) rfl rfl (Nat.le_of_ble_eq_true rfl) dX11_end_2 ⟨Nat.le_of_ble_eq_true rfl, Nat.le_of_ble_eq_true rfl⟩ (fun r1 er2 => ?_)
  subst er2
  refine ax_if_eq (tgt := 27) hC dX11_end_5 (by decide) (fun c3 => ?_) (fun c3 => ?_)
  · exact absurd c3 (by decide)
  · refine ax_aload_n hC 0 dX11_end_8 rfl rfl ?_
    refine ax_iload_n hC 2 dX11_end_9 rfl rfl ?_
    refine ax_callVp (st := []) hC [.int (nI ee)] hO rfl (c_X11_isEnd l D z B lo _ h o on kp ee sn rm st dn wt br gv ed hO hRm hsn hes) (cwV 1 hC.1.2.2.2.2 gX11_end_X11_isEnd rfl rfl rfl (by decide +kernel) ⟨Nat.le_of_ble_eq_true rfl, Nat.le_of_ble_eq_true rfl⟩) rfl rfl (Nat.le_of_ble_eq_true rfl) dX11_end_10 ⟨Nat.le_of_ble_eq_true rfl, Nat.le_of_ble_eq_true rfl⟩ (fun r4 er5 => ?_)
    subst er5
    refine ax_if_eq (tgt := 27) hC dX11_end_13 (by decide) (fun c6 => ?_) (fun c6 => ?_)
    · exact absurd c6 (by decide)
    · refine ax_aload_n hC 0 dX11_end_16 rfl rfl ?_
      refine ax_iload_n hC 1 dX11_end_17 rfl rfl ?_
      refine ax_iload_n hC 2 dX11_end_18 rfl rfl ?_
      refine ax_iconst (v := 0) hC dX11_end_19 (by decide) ?_
      refine ax_iconst (v := 0) hC dX11_end_20 (by decide) ?_
      refine ax_callVi (st := []) hC [.int (nI pn), .int (nI ee), .int 0, .int 0] hO rfl (c_X11_enact_0 l D z B lo _ h o on kp sn rr rm st dn wt br gv ed ee a n q9 (nI pn) es mo nd9 lf T ff a2 n2 q2 hld2 en2 es2 mo2 lf2 T2 pa st9 nu en9 ca cf hO hRm hE hP hcap hn hee hG hff hne hx hq9 hq2 hB hw hwD hst hkk hoa hn2 hst2 hlf hlf2 hen2 hsum hrm hrr) (cwV 4 hC.1.2.2.2.2 gX11_end_X11_enact rfl rfl rfl (by decide +kernel) ⟨Nat.le_of_ble_eq_true rfl, Nat.le_of_ble_eq_true rfl⟩) rfl rfl (Nat.le_of_ble_eq_true rfl) dX11_end_21 ⟨Nat.le_of_ble_eq_true rfl, Nat.le_of_ble_eq_true rfl⟩ (fun r7 hi8 h9 hp10 => ?_)
      refine ax_goto (tgt := 28) hC dX11_end_24 (by decide) ?_
      refine ax_iret hC hr hlocks dX11_end_28 ?_
      exact hp10

abbrev rmX11_say : Room := { frames := 5, cells := 0, slots := 0, locals := 115 }
set_option maxRecDepth 100000 in
set_option maxHeartbeats 4000000 in
theorem c_X11_say (l : Launch) (D : va_G) (z : Nat → ClassId) (B : Heap) (lo hi : Nat) (h : Nat → Option va_E) (o : Nat) (on kp : Int32) (sn rr pn : Nat) (rm st dn wt br gv ed : Int32) (ee a n q9 : Nat) (es mo nd9 : Int32) (lf : Nat → Int32) (T : PT) (ff a2 n2 q2 : Nat) (hld2 en2 es2 mo2 : Int32) (lf2 : Nat → Int32) (T2 : PT) (pa st9 nu en9 ca : Int32) (cf : Nat → Int32) (x : Int32) (hO : ObS h o on kp) (hRm : RmS z h (o + 41) (nI sn) rm st dn wt br gv ed) (hE : EndS z h (o + 41 + 5 + 2 * ee) (nI pn) (some a) (nI n) 0 es (nI q9) mo lf) (hP : PrC z h a nd9 T) (hcap : pcap T ≤ 60) (hn : n < pcap T) (hee : ee < 16) (hG : EndS z h (o + 41 + 5 + 2 * ff) hld2 (some a2) (nI n2) en2 es2 (nI q2) mo2 lf2) (hff : ff < 16) (hne : ¬ ee = ff) (hx : nI ee ^^^ 1 = nI ff) (hq9 : q9 ≤ 4) (hq2 : q2 ≤ 4) (hB : BlmS z h (o + 41 + 3) pa st9 nu en9 ca cf) (hw : wfP T) (hwD : wfD T) (hst : stK (pK T n)) (hkk : pK T n = 1) (hoa : o + 147 ≤ a) (hn2 : n2 < pcap T2) (hst2 : stK (pK T2 n2)) (hlf : ∀ j, j < q9 → 0 ≤ lf j) (hlf2 : ∀ j, j < q2 → 0 ≤ lf2 j) (hen2 : en2 = 0 ∨ en2 = 1) (hsum : st = dn + wt + br) (hrm : rm = nI rr) (hrr : rr ≤ 4) (hpn : pn < 4) (hsn : sn ≤ 8) (hes : ee < 2 * sn) (hx01 : x = 0 ∨ x = 1) : Met l yX11_say wsX11_say rmX11_say (KP D vwCl B lo hi h (ty6 z) [.ref o, .int (nI pn), .int (nI ee), .int x]) (KQi D vwCl B lo (ty6 z) (EnP z h hi o sn ee ff rm gv (nI pn) hld2 a a2 T T2)) 0 0 (fun q => lo ≤ q) := by
  refine ax_met (by decide) rfl (Nat.le_of_ble_eq_true rfl) (L0 := [(0, .ref o), (1, .int (nI pn)), (2, .int (nI ee)), (3, .int x)]) rfl ?_
  intro p e s m args below meth c hC hr hlocks hnm hargs
  refine ax_aload_n hC 0 dX11_say_0 rfl rfl ?_
  refine ax_iload_n hC 1 dX11_say_1 rfl rfl ?_
  refine ax_callVp (st := []) hC [.int (nI pn)] hO rfl (c_X11_isParty l D z B lo _ h o on kp pn hO hpn) (cwV 1 hC.1.2.2.2.2 gX11_say_X11_isParty rfl rfl rfl (by decide +kernel) ⟨Nat.le_of_ble_eq_true rfl, Nat.le_of_ble_eq_true rfl⟩) rfl rfl (Nat.le_of_ble_eq_true rfl) dX11_say_2 ⟨Nat.le_of_ble_eq_true rfl, Nat.le_of_ble_eq_true rfl⟩ (fun r1 er2 => ?_)
  subst er2
  refine ax_if_eq (tgt := 27) hC dX11_say_5 (by decide) (fun c3 => ?_) (fun c3 => ?_)
  · exact absurd c3 (by decide)
  · refine ax_aload_n hC 0 dX11_say_8 rfl rfl ?_
    refine ax_iload_n hC 2 dX11_say_9 rfl rfl ?_
    refine ax_callVp (st := []) hC [.int (nI ee)] hO rfl (c_X11_isEnd l D z B lo _ h o on kp ee sn rm st dn wt br gv ed hO hRm hsn hes) (cwV 1 hC.1.2.2.2.2 gX11_say_X11_isEnd rfl rfl rfl (by decide +kernel) ⟨Nat.le_of_ble_eq_true rfl, Nat.le_of_ble_eq_true rfl⟩) rfl rfl (Nat.le_of_ble_eq_true rfl) dX11_say_10 ⟨Nat.le_of_ble_eq_true rfl, Nat.le_of_ble_eq_true rfl⟩ (fun r4 er5 => ?_)
    subst er5
    refine ax_if_eq (tgt := 27) hC dX11_say_13 (by decide) (fun c6 => ?_) (fun c6 => ?_)
    · exact absurd c6 (by decide)
    · refine ax_aload_n hC 0 dX11_say_16 rfl rfl ?_
      refine ax_iload_n hC 1 dX11_say_17 rfl rfl ?_
      refine ax_iload_n hC 2 dX11_say_18 rfl rfl ?_
      refine ax_iconst (v := 1) hC dX11_say_19 (by decide) ?_
      refine ax_iload_n hC 3 dX11_say_20 rfl rfl ?_
      refine ax_callVi (st := []) hC [.int (nI pn), .int (nI ee), .int 1, .int x] hO rfl (c_X11_enact_1 l D z B lo _ h o on kp sn rr rm st dn wt br gv ed ee a n q9 (nI pn) es mo nd9 lf T ff a2 n2 q2 hld2 en2 es2 mo2 lf2 T2 pa st9 nu en9 ca cf x hO hRm hE hP hcap hn hee hG hff hne hx hq9 hq2 hB hw hwD hst hkk hoa hn2 hst2 hlf hlf2 hen2 hsum hrm hrr hx01) (cwV 4 hC.1.2.2.2.2 gX11_say_X11_enact rfl rfl rfl (by decide +kernel) ⟨Nat.le_of_ble_eq_true rfl, Nat.le_of_ble_eq_true rfl⟩) rfl rfl (Nat.le_of_ble_eq_true rfl) dX11_say_21 ⟨Nat.le_of_ble_eq_true rfl, Nat.le_of_ble_eq_true rfl⟩ (fun r7 hi8 h9 hp10 => ?_)
      refine ax_goto (tgt := 28) hC dX11_say_24 (by decide) ?_
      refine ax_iret hC hr hlocks dX11_say_28 ?_
      exact hp10

abbrev rmX11_hear : Room := { frames := 5, cells := 0, slots := 0, locals := 115 }
set_option maxRecDepth 100000 in
set_option maxHeartbeats 4000000 in
theorem c_X11_hear (l : Launch) (D : va_G) (z : Nat → ClassId) (B : Heap) (lo hi : Nat) (h : Nat → Option va_E) (o : Nat) (on kp : Int32) (sn rr pn : Nat) (rm st dn wt br gv ed : Int32) (ee a n q9 : Nat) (es mo nd9 : Int32) (lf : Nat → Int32) (T : PT) (ff a2 n2 q2 : Nat) (hld2 en2 es2 mo2 : Int32) (lf2 : Nat → Int32) (T2 : PT) (pa st9 nu en9 ca : Int32) (cf : Nat → Int32) (hO : ObS h o on kp) (hRm : RmS z h (o + 41) (nI sn) rm st dn wt br gv ed) (hE : EndS z h (o + 41 + 5 + 2 * ee) (nI pn) (some a) (nI n) 0 es (nI q9) mo lf) (hP : PrC z h a nd9 T) (hcap : pcap T ≤ 60) (hn : n < pcap T) (hee : ee < 16) (hG : EndS z h (o + 41 + 5 + 2 * ff) hld2 (some a2) (nI n2) en2 es2 (nI q2) mo2 lf2) (hff : ff < 16) (hne : ¬ ee = ff) (hx : nI ee ^^^ 1 = nI ff) (hq9 : q9 ≤ 4) (hq2 : q2 ≤ 4) (hB : BlmS z h (o + 41 + 3) pa st9 nu en9 ca cf) (hw : wfP T) (hwD : wfD T) (hst : stK (pK T n)) (hkk : pK T n = 2) (hoa : o + 147 ≤ a) (hn2 : n2 < pcap T2) (hst2 : stK (pK T2 n2)) (hlf : ∀ j, j < q9 → 0 ≤ lf j) (hlf2 : ∀ j, j < q2 → 0 ≤ lf2 j) (hen2 : en2 = 0 ∨ en2 = 1) (hsum : st = dn + wt + br) (hrm : rm = nI rr) (hrr : rr ≤ 4) (hpn : pn < 4) (hsn : sn ≤ 8) (hes : ee < 2 * sn) : Met l yX11_hear wsX11_hear rmX11_hear (KP D vwCl B lo hi h (ty6 z) [.ref o, .int (nI pn), .int (nI ee)]) (KQi D vwCl B lo (ty6 z) (EnP z h hi o sn ee ff rm gv (nI pn) hld2 a a2 T T2)) 0 0 (fun q => lo ≤ q) := by
  refine ax_met (by decide) rfl (Nat.le_of_ble_eq_true rfl) (L0 := [(0, .ref o), (1, .int (nI pn)), (2, .int (nI ee))]) rfl ?_
  intro p e s m args below meth c hC hr hlocks hnm hargs
  refine ax_aload_n hC 0 dX11_hear_0 rfl rfl ?_
  refine ax_iload_n hC 1 dX11_hear_1 rfl rfl ?_
  refine ax_callVp (st := []) hC [.int (nI pn)] hO rfl (c_X11_isParty l D z B lo _ h o on kp pn hO hpn) (cwV 1 hC.1.2.2.2.2 gX11_hear_X11_isParty rfl rfl rfl (by decide +kernel) ⟨Nat.le_of_ble_eq_true rfl, Nat.le_of_ble_eq_true rfl⟩) rfl rfl (Nat.le_of_ble_eq_true rfl) dX11_hear_2 ⟨Nat.le_of_ble_eq_true rfl, Nat.le_of_ble_eq_true rfl⟩ (fun r1 er2 => ?_)
  subst er2
  refine ax_if_eq (tgt := 27) hC dX11_hear_5 (by decide) (fun c3 => ?_) (fun c3 => ?_)
  · exact absurd c3 (by decide)
  · refine ax_aload_n hC 0 dX11_hear_8 rfl rfl ?_
    refine ax_iload_n hC 2 dX11_hear_9 rfl rfl ?_
    refine ax_callVp (st := []) hC [.int (nI ee)] hO rfl (c_X11_isEnd l D z B lo _ h o on kp ee sn rm st dn wt br gv ed hO hRm hsn hes) (cwV 1 hC.1.2.2.2.2 gX11_hear_X11_isEnd rfl rfl rfl (by decide +kernel) ⟨Nat.le_of_ble_eq_true rfl, Nat.le_of_ble_eq_true rfl⟩) rfl rfl (Nat.le_of_ble_eq_true rfl) dX11_hear_10 ⟨Nat.le_of_ble_eq_true rfl, Nat.le_of_ble_eq_true rfl⟩ (fun r4 er5 => ?_)
    subst er5
    refine ax_if_eq (tgt := 27) hC dX11_hear_13 (by decide) (fun c6 => ?_) (fun c6 => ?_)
    · exact absurd c6 (by decide)
    · refine ax_aload_n hC 0 dX11_hear_16 rfl rfl ?_
      refine ax_iload_n hC 1 dX11_hear_17 rfl rfl ?_
      refine ax_iload_n hC 2 dX11_hear_18 rfl rfl ?_
      refine ax_iconst (v := 2) hC dX11_hear_19 (by decide) ?_
      refine ax_iconst (v := 0) hC dX11_hear_20 (by decide) ?_
      refine ax_callVi (st := []) hC [.int (nI pn), .int (nI ee), .int 2, .int 0] hO rfl (c_X11_enact_2 l D z B lo _ h o on kp sn rr rm st dn wt br gv ed ee a n q9 (nI pn) es mo nd9 lf T ff a2 n2 q2 hld2 en2 es2 mo2 lf2 T2 pa st9 nu en9 ca cf hO hRm hE hP hcap hn hee hG hff hne hx hq9 hq2 hB hw hwD hst hkk hoa hn2 hst2 hlf hlf2 hen2 hsum hrm hrr) (cwV 4 hC.1.2.2.2.2 gX11_hear_X11_enact rfl rfl rfl (by decide +kernel) ⟨Nat.le_of_ble_eq_true rfl, Nat.le_of_ble_eq_true rfl⟩) rfl rfl (Nat.le_of_ble_eq_true rfl) dX11_hear_21 ⟨Nat.le_of_ble_eq_true rfl, Nat.le_of_ble_eq_true rfl⟩ (fun r7 hi8 h9 hp10 => ?_)
      refine ax_goto (tgt := 28) hC dX11_hear_24 (by decide) ?_
      refine ax_iret hC hr hlocks dX11_hear_28 ?_
      exact hp10

abbrev rmX11_choose : Room := { frames := 5, cells := 0, slots := 0, locals := 115 }
set_option maxRecDepth 100000 in
set_option maxHeartbeats 4000000 in
theorem c_X11_choose (l : Launch) (D : va_G) (z : Nat → ClassId) (B : Heap) (lo hi : Nat) (h : Nat → Option va_E) (o : Nat) (on kp : Int32) (sn rr pn : Nat) (rm st dn wt br gv ed : Int32) (ee a n q9 : Nat) (es mo nd9 : Int32) (lf : Nat → Int32) (T : PT) (ff a2 n2 q2 : Nat) (hld2 en2 es2 mo2 : Int32) (lf2 : Nat → Int32) (T2 : PT) (pa st9 nu en9 ca : Int32) (cf : Nat → Int32) (j : Nat) (hO : ObS h o on kp) (hRm : RmS z h (o + 41) (nI sn) rm st dn wt br gv ed) (hE : EndS z h (o + 41 + 5 + 2 * ee) (nI pn) (some a) (nI n) 0 es (nI q9) mo lf) (hP : PrC z h a nd9 T) (hcap : pcap T ≤ 60) (hn : n < pcap T) (hee : ee < 16) (hG : EndS z h (o + 41 + 5 + 2 * ff) hld2 (some a2) (nI n2) en2 es2 (nI q2) mo2 lf2) (hff : ff < 16) (hne : ¬ ee = ff) (hx : nI ee ^^^ 1 = nI ff) (hq9 : q9 ≤ 4) (hq2 : q2 ≤ 4) (hB : BlmS z h (o + 41 + 3) pa st9 nu en9 ca cf) (hw : wfP T) (hwD : wfD T) (hst : stK (pK T n)) (hkk : pK T n = 3) (hoa : o + 147 ≤ a) (hn2 : n2 < pcap T2) (hst2 : stK (pK T2 n2)) (hlf : ∀ j, j < q9 → 0 ≤ lf j) (hlf2 : ∀ j, j < q2 → 0 ≤ lf2 j) (hen2 : en2 = 0 ∨ en2 = 1) (hsum : st = dn + wt + br) (hrm : rm = nI rr) (hrr : rr ≤ 4) (hpn : pn < 4) (hsn : sn ≤ 8) (hes : ee < 2 * sn) (hj : j < 26) (hb : ¬ (pLb T n >>> (nI j &&& 31)) &&& 1 = 0) : Met l yX11_choose wsX11_choose rmX11_choose (KP D vwCl B lo hi h (ty6 z) [.ref o, .int (nI pn), .int (nI ee), .int (nI (97 + j))]) (KQi D vwCl B lo (ty6 z) (EnP z h hi o sn ee ff rm gv (nI pn) hld2 a a2 T T2)) 0 0 (fun q => lo ≤ q) := by
  refine ax_met (by decide) rfl (Nat.le_of_ble_eq_true rfl) (L0 := [(0, .ref o), (1, .int (nI pn)), (2, .int (nI ee)), (3, .int (nI (97 + j)))]) rfl ?_
  intro p e s m args below meth c hC hr hlocks hnm hargs
  refine ax_aload_n hC 0 dX11_choose_0 rfl rfl ?_
  refine ax_iload_n hC 1 dX11_choose_1 rfl rfl ?_
  refine ax_callVp (st := []) hC [.int (nI pn)] hO rfl (c_X11_isParty l D z B lo _ h o on kp pn hO hpn) (cwV 1 hC.1.2.2.2.2 gX11_choose_X11_isParty rfl rfl rfl (by decide +kernel) ⟨Nat.le_of_ble_eq_true rfl, Nat.le_of_ble_eq_true rfl⟩) rfl rfl (Nat.le_of_ble_eq_true rfl) dX11_choose_2 ⟨Nat.le_of_ble_eq_true rfl, Nat.le_of_ble_eq_true rfl⟩ (fun r1 er2 => ?_)
  subst er2
  refine ax_if_eq (tgt := 27) hC dX11_choose_5 (by decide) (fun c3 => ?_) (fun c3 => ?_)
  · exact absurd c3 (by decide)
  · refine ax_aload_n hC 0 dX11_choose_8 rfl rfl ?_
    refine ax_iload_n hC 2 dX11_choose_9 rfl rfl ?_
    refine ax_callVp (st := []) hC [.int (nI ee)] hO rfl (c_X11_isEnd l D z B lo _ h o on kp ee sn rm st dn wt br gv ed hO hRm hsn hes) (cwV 1 hC.1.2.2.2.2 gX11_choose_X11_isEnd rfl rfl rfl (by decide +kernel) ⟨Nat.le_of_ble_eq_true rfl, Nat.le_of_ble_eq_true rfl⟩) rfl rfl (Nat.le_of_ble_eq_true rfl) dX11_choose_10 ⟨Nat.le_of_ble_eq_true rfl, Nat.le_of_ble_eq_true rfl⟩ (fun r4 er5 => ?_)
    subst er5
    refine ax_if_eq (tgt := 27) hC dX11_choose_13 (by decide) (fun c6 => ?_) (fun c6 => ?_)
    · exact absurd c6 (by decide)
    · refine ax_aload_n hC 0 dX11_choose_16 rfl rfl ?_
      refine ax_iload_n hC 1 dX11_choose_17 rfl rfl ?_
      refine ax_iload_n hC 2 dX11_choose_18 rfl rfl ?_
      refine ax_iconst (v := 3) hC dX11_choose_19 (by decide) ?_
      refine ax_iload_n hC 3 dX11_choose_20 rfl rfl ?_
      refine ax_callVi (st := []) hC [.int (nI pn), .int (nI ee), .int 3, .int (nI (97 + j))] hO rfl (c_X11_enact_3 l D z B lo _ h o on kp sn rr rm st dn wt br gv ed ee a n q9 (nI pn) es mo nd9 lf T ff a2 n2 q2 hld2 en2 es2 mo2 lf2 T2 pa st9 nu en9 ca cf j hO hRm hE hP hcap hn hee hG hff hne hx hq9 hq2 hB hw hwD hst hkk hoa hn2 hst2 hlf hlf2 hen2 hsum hrm hrr hj hb) (cwV 4 hC.1.2.2.2.2 gX11_choose_X11_enact rfl rfl rfl (by decide +kernel) ⟨Nat.le_of_ble_eq_true rfl, Nat.le_of_ble_eq_true rfl⟩) rfl rfl (Nat.le_of_ble_eq_true rfl) dX11_choose_21 ⟨Nat.le_of_ble_eq_true rfl, Nat.le_of_ble_eq_true rfl⟩ (fun r7 hi8 h9 hp10 => ?_)
      refine ax_goto (tgt := 28) hC dX11_choose_24 (by decide) ?_
      refine ax_iret hC hr hlocks dX11_choose_28 ?_
      exact hp10

abbrev rmX11_offered : Room := { frames := 5, cells := 0, slots := 0, locals := 115 }
set_option maxRecDepth 100000 in
set_option maxHeartbeats 4000000 in
theorem c_X11_offered (l : Launch) (D : va_G) (z : Nat → ClassId) (B : Heap) (lo hi : Nat) (h : Nat → Option va_E) (o : Nat) (on kp : Int32) (sn rr pn : Nat) (rm st dn wt br gv ed : Int32) (ee a n q9 : Nat) (es mo nd9 : Int32) (lf : Nat → Int32) (T : PT) (ff a2 n2 q2 : Nat) (hld2 en2 es2 mo2 : Int32) (lf2 : Nat → Int32) (T2 : PT) (pa st9 nu en9 ca : Int32) (cf : Nat → Int32) (hO : ObS h o on kp) (hRm : RmS z h (o + 41) (nI sn) rm st dn wt br gv ed) (hE : EndS z h (o + 41 + 5 + 2 * ee) (nI pn) (some a) (nI n) 0 es (nI q9) mo lf) (hP : PrC z h a nd9 T) (hcap : pcap T ≤ 60) (hn : n < pcap T) (hee : ee < 16) (hG : EndS z h (o + 41 + 5 + 2 * ff) hld2 (some a2) (nI n2) en2 es2 (nI q2) mo2 lf2) (hff : ff < 16) (hne : ¬ ee = ff) (hx : nI ee ^^^ 1 = nI ff) (hq9 : q9 ≤ 4) (hq2 : q2 ≤ 4) (hB : BlmS z h (o + 41 + 3) pa st9 nu en9 ca cf) (hw : wfP T) (hwD : wfD T) (hst : stK (pK T n)) (hkk : pK T n = 4) (hoa : o + 147 ≤ a) (hn2 : n2 < pcap T2) (hst2 : stK (pK T2 n2)) (hlf : ∀ j, j < q9 → 0 ≤ lf j) (hlf2 : ∀ j, j < q2 → 0 ≤ lf2 j) (hen2 : en2 = 0 ∨ en2 = 1) (hsum : st = dn + wt + br) (hrm : rm = nI rr) (hrr : rr ≤ 4) (hpn : pn < 4) (hsn : sn ≤ 8) (hes : ee < 2 * sn) : Met l yX11_offered wsX11_offered rmX11_offered (KP D vwCl B lo hi h (ty6 z) [.ref o, .int (nI pn), .int (nI ee)]) (KQi D vwCl B lo (ty6 z) (EnP z h hi o sn ee ff rm gv (nI pn) hld2 a a2 T T2)) 0 0 (fun q => lo ≤ q) := by
  refine ax_met (by decide) rfl (Nat.le_of_ble_eq_true rfl) (L0 := [(0, .ref o), (1, .int (nI pn)), (2, .int (nI ee))]) rfl ?_
  intro p e s m args below meth c hC hr hlocks hnm hargs
  refine ax_aload_n hC 0 dX11_offered_0 rfl rfl ?_
  refine ax_iload_n hC 1 dX11_offered_1 rfl rfl ?_
  refine ax_callVp (st := []) hC [.int (nI pn)] hO rfl (c_X11_isParty l D z B lo _ h o on kp pn hO hpn) (cwV 1 hC.1.2.2.2.2 gX11_offered_X11_isParty rfl rfl rfl (by decide +kernel) ⟨Nat.le_of_ble_eq_true rfl, Nat.le_of_ble_eq_true rfl⟩) rfl rfl (Nat.le_of_ble_eq_true rfl) dX11_offered_2 ⟨Nat.le_of_ble_eq_true rfl, Nat.le_of_ble_eq_true rfl⟩ (fun r1 er2 => ?_)
  subst er2
  refine ax_if_eq (tgt := 27) hC dX11_offered_5 (by decide) (fun c3 => ?_) (fun c3 => ?_)
  · exact absurd c3 (by decide)
  · refine ax_aload_n hC 0 dX11_offered_8 rfl rfl ?_
    refine ax_iload_n hC 2 dX11_offered_9 rfl rfl ?_
    refine ax_callVp (st := []) hC [.int (nI ee)] hO rfl (c_X11_isEnd l D z B lo _ h o on kp ee sn rm st dn wt br gv ed hO hRm hsn hes) (cwV 1 hC.1.2.2.2.2 gX11_offered_X11_isEnd rfl rfl rfl (by decide +kernel) ⟨Nat.le_of_ble_eq_true rfl, Nat.le_of_ble_eq_true rfl⟩) rfl rfl (Nat.le_of_ble_eq_true rfl) dX11_offered_10 ⟨Nat.le_of_ble_eq_true rfl, Nat.le_of_ble_eq_true rfl⟩ (fun r4 er5 => ?_)
    subst er5
    refine ax_if_eq (tgt := 27) hC dX11_offered_13 (by decide) (fun c6 => ?_) (fun c6 => ?_)
    · exact absurd c6 (by decide)
    · refine ax_aload_n hC 0 dX11_offered_16 rfl rfl ?_
      refine ax_iload_n hC 1 dX11_offered_17 rfl rfl ?_
      refine ax_iload_n hC 2 dX11_offered_18 rfl rfl ?_
      refine ax_iconst (v := 4) hC dX11_offered_19 (by decide) ?_
      refine ax_iconst (v := 0) hC dX11_offered_20 (by decide) ?_
      refine ax_callVi (st := []) hC [.int (nI pn), .int (nI ee), .int 4, .int 0] hO rfl (c_X11_enact_4 l D z B lo _ h o on kp sn rr rm st dn wt br gv ed ee a n q9 (nI pn) es mo nd9 lf T ff a2 n2 q2 hld2 en2 es2 mo2 lf2 T2 pa st9 nu en9 ca cf hO hRm hE hP hcap hn hee hG hff hne hx hq9 hq2 hB hw hwD hst hkk hoa hn2 hst2 hlf hlf2 hen2 hsum hrm hrr) (cwV 4 hC.1.2.2.2.2 gX11_offered_X11_enact rfl rfl rfl (by decide +kernel) ⟨Nat.le_of_ble_eq_true rfl, Nat.le_of_ble_eq_true rfl⟩) rfl rfl (Nat.le_of_ble_eq_true rfl) dX11_offered_21 ⟨Nat.le_of_ble_eq_true rfl, Nat.le_of_ble_eq_true rfl⟩ (fun r7 hi8 h9 hp10 => ?_)
      refine ax_goto (tgt := 28) hC dX11_offered_24 (by decide) ?_
      refine ax_iret hC hr hlocks dX11_offered_28 ?_
      exact hp10

abbrev rmX11_open : Room := { frames := 4, cells := 9, slots := 2889, locals := 106 }
set_option maxRecDepth 100000 in
set_option maxHeartbeats 4000000 in
theorem c_X11_open (l : Launch) (D : va_G) (z : Nat → ClassId) (B : Heap) (lo hi : Nat) (h : Nat → Option va_E) (o : Nat) (on kp : Int32) (k p9 q9 a : Nat) (T : PT) (pa : Nat → Option Nat) (sn : Nat) (rm st dn wt br gv ed : Int32) (hO : ObS h o on kp) (hPs : PsS z h o pa) (hk : k < 16) (hpk : pa k = some a) (hP : PrC z h a (nI (pcap T)) T) (hw : wfP T) (hba : o + 147 ≤ a) (hbig : o + 147 ≤ hi) (hRm : RmS z h (o + 41) (nI sn) rm st dn wt br gv ed) (hE1 : EndS z h (o + 41 + 5 + 2 * (2 * sn)) 9 none 0 0 0 0 0 (fun _ => 0)) (hE2 : EndS z h (o + 41 + 5 + 2 * (2 * sn + 1)) 9 none 0 0 0 0 0 (fun _ => 0)) (hsn : sn < 8) (hp9 : p9 < 4) (hq9 : q9 < 4) : Met l yX11_open wsX11_open rmX11_open (KP D vwCl B lo hi h (ty6 z) [.ref o, .int (nI k), .int (nI p9), .int (nI q9)]) (KQi D vwCl B lo (ty6 z) (fun r hi' h' => r = nI sn ∧ hi' = hi + 9 ∧ (∀ q, q < hi → ¬ q = o + 41 → (q < o + 41 + 5 + 2 * (2 * sn) ∨ o + 41 + 5 + 2 * (2 * sn) + 4 ≤ q) → h' q = h q) ∧ RmS z h' (o + 41) (nI (sn + 1)) rm st dn wt br gv ed ∧ EndS z h' (o + 41 + 5 + 2 * (2 * sn)) (nI p9) (some a) (rd (pcap T) (pSt T) 0 0) 0 0 0 0 (fun _ => 0) ∧ ∃ T', PrC z h' hi (nI (pcap T)) T' ∧ TurnD T T' ∧ EndS z h' (o + 41 + 5 + 2 * (2 * sn + 1)) (nI q9) (some hi) (rd (pcap T') (pSt T') 0 0) 0 0 0 0 (fun _ => 0))) 9 2889 (fun q => lo ≤ q) := by
  refine ax_met (by decide) rfl (Nat.le_of_ble_eq_true rfl) (L0 := [(0, .ref o), (1, .int (nI k)), (2, .int (nI p9)), (3, .int (nI q9))]) rfl ?_
  intro p e s m args below meth c hC hr hlocks hnm hargs
  have iX11 : ∀ w ∈ u_ws RX11 TX11 13, w ∈ wsX11_open := by decide +kernel
  have iX9 : ∀ w ∈ u_ws RX9 TX9 11, w ∈ wsX11_open := by decide +kernel
  refine ax_tell hP.2.2.2.2.2.2.2.2 (fun ta_0 => ?_)
  obtain ⟨hRo, ef, hef, hefi⟩ := id hRm
  refine ax_aload_n hC 0 dX11_open_0 rfl rfl ?_
  refine ax_iload_n hC 1 dX11_open_1 rfl rfl ?_
  refine ax_callVq (st := []) hC [.int (nI k)] hO rfl (c_X11_protocolAt l D z B lo _ h o on kp k pa hO hPs (by omega)) (cwV 1 hC.1.2.2.2.2 gX11_open_X11_protocolAt rfl rfl rfl (by decide +kernel) ⟨Nat.le_of_ble_eq_true rfl, Nat.le_of_ble_eq_true rfl⟩) rfl rfl (Nat.le_of_ble_eq_true rfl) dX11_open_2 ⟨Nat.le_of_ble_eq_true rfl, Nat.le_of_ble_eq_true rfl⟩ (fun r1 hi2 h3 hp4 => ?_)
  obtain ⟨er5, ei6, eh7⟩ := hp4
  subst er5
  replace ei6 := ei6.symm
  subst ei6
  replace eh7 := eh7.symm
  subst eh7
  refine ax_eqq (y := some a) (hpk) ?_
  refine ax_astore hC [(4, .ref a), (0, .ref o), (1, .int (nI k)), (2, .int (nI p9)), (3, .int (nI q9))] dX11_open_5 (by decide) rfl ?_
  refine ax_aload hC 0 dX11_open_7 rfl ?_
  refine ax_ifnull hC dX11_open_9 ?_
  refine ax_aload_n hC 1 dX11_open_12 rfl rfl ?_
  refine ax_iload_n hC 3 dX11_open_13 rfl rfl ?_
  refine ax_callVp (st := []) hC [.int (nI p9)] hO rfl (c_X11_isParty l D z B lo _ h o on kp p9 hO (by omega)) (cwV 1 hC.1.2.2.2.2 gX11_open_X11_isParty rfl rfl rfl (by decide +kernel) ⟨Nat.le_of_ble_eq_true rfl, Nat.le_of_ble_eq_true rfl⟩) rfl rfl (Nat.le_of_ble_eq_true rfl) dX11_open_14 ⟨Nat.le_of_ble_eq_true rfl, Nat.le_of_ble_eq_true rfl⟩ (fun r8 er9 => ?_)
  subst er9
  refine ax_if_eq (tgt := 28) hC dX11_open_17 (by decide) (fun c10 => ?_) (fun c10 => ?_)
  · exact absurd c10 (by decide)
  · refine ax_aload_n hC 1 dX11_open_20 rfl rfl ?_
    refine ax_iload_n hC 4 dX11_open_21 rfl rfl ?_
    refine ax_callVp (st := []) hC [.int (nI q9)] hO rfl (c_X11_isParty l D z B lo _ h o on kp q9 hO (by omega)) (cwV 1 hC.1.2.2.2.2 gX11_open_X11_isParty rfl rfl rfl (by decide +kernel) ⟨Nat.le_of_ble_eq_true rfl, Nat.le_of_ble_eq_true rfl⟩) rfl rfl (Nat.le_of_ble_eq_true rfl) dX11_open_22 ⟨Nat.le_of_ble_eq_true rfl, Nat.le_of_ble_eq_true rfl⟩ (fun r11 er12 => ?_)
    subst er12
    refine ax_if_ne (tgt := 30) hC dX11_open_25 (by decide) (fun c13 => ?_) (fun c13 => ?_)
    · refine ax_aload_n hC 1 dX11_open_30 rfl rfl ?_
      refine ax_getf (v := .ref (o + 41)) hC hO iX11 rfl 10 (by decide) (by decide +kernel) rfl rfl dX11_open_31 ?_
      refine ax_getf (v := .int (nI sn)) hC hRo iX9 rfl 3 (by decide) (by decide +kernel) rfl rfl dX11_open_34 ?_
      refine ax_istore hC [(5, .int (nI sn)), (4, .ref a), (0, .ref o), (1, .int (nI k)), (2, .int (nI p9)), (3, .int (nI q9))] dX11_open_37 (by decide) rfl ?_
      refine ax_iconst (v := 2) hC dX11_open_39 (by decide) ?_
      refine ax_iload hC 0 dX11_open_40 rfl ?_
      refine ax_imul hC dX11_open_42 ?_
      refine ax_eqi (y := nI (2 * sn)) (nI_mul' 2 sn) ?_
      refine ax_istore hC [(6, .int (nI (2 * sn))), (5, .int (nI sn)), (4, .ref a), (0, .ref o), (1, .int (nI k)), (2, .int (nI p9)), (3, .int (nI q9))] dX11_open_43 (by decide) rfl ?_
      refine ax_iload hC 1 dX11_open_45 rfl ?_
      refine ax_if_lt (tgt := 72) hC dX11_open_47 (by decide) (fun c14 => ?_) (fun c14 => ?_)
      · exact absurd c14 (nI_pos (by omega))
      · refine ax_iload hC 1 dX11_open_50 rfl ?_
        refine ax_bipush (v := 8) hC dX11_open_52 (by decide) ?_
        refine ax_icmp_ge (tgt := 72) hC dX11_open_54 (by decide) (fun c15 => ?_) (fun c15 => ?_)
        · exact absurd c15 (nI_ge (a := sn) (b := 8) (by omega) (by decide))
        · refine ax_iload hC 0 dX11_open_57 rfl ?_
          refine ax_iconst (v := 1) hC dX11_open_59 (by decide) ?_
          refine ax_iadd hC dX11_open_60 ?_
          refine ax_eqi (y := nI (2 * sn + 1)) (nI_1 _) ?_
          refine ax_aload_n hC 3 dX11_open_61 rfl rfl ?_
          refine ax_getf (v := .ref (o + 41)) hC hO iX11 rfl 10 (by decide) (by decide +kernel) rfl rfl dX11_open_62 ?_
          refine ax_getf (v := .ref (o + 41 + 1)) hC hRo iX9 rfl 0 (by decide) (by decide +kernel) rfl rfl dX11_open_65 ?_
          refine ax_alen (v := 16) hC hef 3 rfl rfl dX11_open_68 ?_
          refine ax_icmp_lt (tgt := 75) hC dX11_open_69 (by decide) (fun c16 => ?_) (fun c16 => ?_)
          · refine ax_aload_n hC 3 dX11_open_75 rfl rfl ?_
            refine ax_getf (v := .ref (o + 41)) hC hO iX11 rfl 10 (by decide) (by decide +kernel) rfl rfl dX11_open_76 ?_
            refine ax_getf (v := .ref (o + 41 + 1)) hC hRo iX9 rfl 0 (by decide) (by decide +kernel) rfl rfl dX11_open_79 ?_
            refine ax_iload hC 0 dX11_open_82 rfl ?_
            have b17 : vp_in (nI (2 * sn)) 16 := vp_in_nI (by omega) (by omega)
            refine ax_aald hC hef 3 rfl b17 dX11_open_84 ?_
            refine ax_eqq (y := ef (2 * sn)) (by rw [nI_clamp (by omega)] <;> rfl) ?_
            refine ax_eqq (y := some (o + 41 + 5 + 2 * (2 * sn))) (hefi (2 * sn) (by omega)) ?_
            refine ax_iload_n hC 5 dX11_open_85 rfl rfl ?_
            refine ax_aload hC 2 dX11_open_86 rfl ?_
            refine ax_callVv (st := []) hC [.int (nI p9), .ref a] hE1.1 rfl (c_X2_start l D z B lo _ h (o + 41 + 5 + 2 * (2 * sn)) a 9 0 0 0 0 0 _ (nI p9) none (fun _ => 0) T ⟨hE1.1, hE1.2⟩ hP hw.1 (by omega)) (cwV 2 hC.1.2.2.2.2 gX11_open_X2_start rfl rfl rfl (by decide +kernel) ⟨Nat.le_of_ble_eq_true rfl, Nat.le_of_ble_eq_true rfl⟩) rfl rfl (Nat.le_of_ble_eq_true rfl) dX11_open_88 ⟨Nat.le_of_ble_eq_true rfl, Nat.le_of_ble_eq_true rfl⟩ (fun hi18 h19 hp20 => ?_)
            obtain ⟨ei21, fr22, hE23⟩ := hp20
            replace ei21 := ei21.symm
            subst ei21
            have x24 : h19 o = some (.inr (13, [.ref (o + 1), .ref (o + 2), .int on, .ref (o + 3), .ref (o + 15), .ref (o + 21), .ref (o + 23), .ref (o + 26), .ref (o + 32), .ref (o + 40), .ref (o + 41), .ref (o + 94), .int kp])) := (fr22 _ (by omega)).trans hO
            have x25 : h19 (o + 1) = some (.inl (z 5, 16, .inr (.inr (.inr (.inr (pa)))))) := (fr22 _ (by omega)).trans hPs
            have x26 : h19 (o + 41) = some (.inr (11, [.ref (o + 41 + 1), .ref (o + 41 + 2), .ref (o + 41 + 3), .int (nI sn), .int rm, .int st, .int dn, .int wt, .int br, .int gv, .int ed])) := (fr22 _ (by omega)).trans hRo
            have x27 : h19 (o + 41 + 1) = some (.inl (z 3, 16, .inr (.inr (.inr (.inr (ef)))))) := (fr22 _ (by omega)).trans hef
            have x28 : h19 (o + 41 + 5 + 2 * (2 * sn + 1)) = some (.inr (4, [.int 9, .null, .int 0, .int 0, .int 0, .int 0, .int 0, .ref (o + 41 + 5 + 2 * (2 * sn + 1) + 1)])) := (fr22 _ (by omega)).trans hE2.1
            have x29 : h19 (o + 41 + 5 + 2 * (2 * sn + 1) + 1) = some (.inl (z 1, 4, .inl (fun _ => 0))) := (fr22 _ (by omega)).trans hE2.2
            have hp_30 : PrC z h19 a _ T := hP.kept (fun q _ _ => fr22 q (by omega))
            refine ax_aload_n hC 3 dX11_open_91 rfl rfl ?_
            refine ax_getf (v := .ref (o + 41)) hC x24 iX11 rfl 10 (by decide) (by decide +kernel) rfl rfl dX11_open_92 ?_
            refine ax_getf (v := .ref (o + 41 + 1)) hC x26 iX9 rfl 0 (by decide) (by decide +kernel) rfl rfl dX11_open_95 ?_
            refine ax_iload hC 0 dX11_open_98 rfl ?_
            refine ax_iconst (v := 1) hC dX11_open_100 (by decide) ?_
            refine ax_iadd hC dX11_open_101 ?_
            refine ax_eqi (y := nI (2 * sn + 1)) (nI_1 _) ?_
            have b31 : vp_in (nI (2 * sn + 1)) 16 := vp_in_nI (by omega) (by omega)
            refine ax_aald hC x27 3 rfl b31 dX11_open_102 ?_
            refine ax_eqq (y := ef (2 * sn + 1)) (by rw [nI_clamp (by omega)] <;> rfl) ?_
            refine ax_eqq (y := some (o + 41 + 5 + 2 * (2 * sn + 1))) (hefi (2 * sn + 1) (by omega)) ?_
            refine ax_iload_n hC 6 dX11_open_103 rfl rfl ?_
            refine ax_aload hC 2 dX11_open_104 rfl ?_
            refine ax_callVq (st := [.int (nI q9), .ref (o + 41 + 5 + 2 * (2 * sn + 1))]) hC [] hp_30.1 rfl (c_X7_turned l D z B lo _ h19 a T hp_30 hw.1) (cwV 0 hC.1.2.2.2.2 gX11_open_X7_turned rfl rfl rfl (by decide +kernel) ⟨Nat.le_of_ble_eq_true rfl, Nat.le_of_ble_eq_true rfl⟩) rfl rfl (Nat.le_of_ble_eq_true rfl) dX11_open_106 ⟨Nat.le_of_ble_eq_true rfl, Nat.le_of_ble_eq_true rfl⟩ (fun r32 hi33 h34 hp35 => ?_)
            obtain ⟨ei36, fr37, er38, T39, td40, pr41⟩ := hp35
            subst ei36
            subst er38
            have x42 : h34 o = some (.inr (13, [.ref (o + 1), .ref (o + 2), .int on, .ref (o + 3), .ref (o + 15), .ref (o + 21), .ref (o + 23), .ref (o + 26), .ref (o + 32), .ref (o + 40), .ref (o + 41), .ref (o + 94), .int kp])) := (fr37 _ (by omega)).trans x24
            have x43 : h34 (o + 1) = some (.inl (z 5, 16, .inr (.inr (.inr (.inr (pa)))))) := (fr37 _ (by omega)).trans x25
            have x44 : h34 (o + 41) = some (.inr (11, [.ref (o + 41 + 1), .ref (o + 41 + 2), .ref (o + 41 + 3), .int (nI sn), .int rm, .int st, .int dn, .int wt, .int br, .int gv, .int ed])) := (fr37 _ (by omega)).trans x26
            have x45 : h34 (o + 41 + 1) = some (.inl (z 3, 16, .inr (.inr (.inr (.inr (ef)))))) := (fr37 _ (by omega)).trans x27
            have x46 : h34 (o + 41 + 5 + 2 * (2 * sn + 1)) = some (.inr (4, [.int 9, .null, .int 0, .int 0, .int 0, .int 0, .int 0, .ref (o + 41 + 5 + 2 * (2 * sn + 1) + 1)])) := (fr37 _ (by omega)).trans x28
            have x47 : h34 (o + 41 + 5 + 2 * (2 * sn + 1) + 1) = some (.inl (z 1, 4, .inl (fun _ => 0))) := (fr37 _ (by omega)).trans x29
            have x48 : h34 (o + 41 + 5 + 2 * (2 * sn)) = some (.inr (4, [.int (nI p9), .ref a, .int ((rd (pcap T) (pSt T) 0 0)), .int 0, .int 0, .int 0, .int 0, .ref (o + 41 + 5 + 2 * (2 * sn) + 1)])) := (fr37 _ (by omega)).trans hE23.1
            have x49 : h34 (o + 41 + 5 + 2 * (2 * sn) + 1) = some (.inl (z 1, 4, .inl (fun _ => 0))) := (fr37 _ (by omega)).trans hE23.2
            have hp_50 : PrC z h34 a _ T := hp_30.kept (fun q _ _ => fr37 q (by omega))
            refine ax_callVv (st := []) hC [.int (nI q9), .ref hi] x46 rfl (c_X2_start l D z B lo _ h34 (o + 41 + 5 + 2 * (2 * sn + 1)) hi 9 0 0 0 0 0 _ (nI q9) none (fun _ => 0) T39 ⟨x46, x47⟩ pr41 (td40.1 ▸ hw.1) (by omega)) (cwV 2 hC.1.2.2.2.2 gX11_open_X2_start rfl rfl rfl (by decide +kernel) ⟨Nat.le_of_ble_eq_true rfl, Nat.le_of_ble_eq_true rfl⟩) rfl rfl (Nat.le_of_ble_eq_true rfl) dX11_open_109 ⟨Nat.le_of_ble_eq_true rfl, Nat.le_of_ble_eq_true rfl⟩ (fun hi51 h52 hp53 => ?_)
            obtain ⟨ei54, fr55, hE56⟩ := hp53
            replace ei54 := ei54.symm
            subst ei54
            have x57 : h52 o = some (.inr (13, [.ref (o + 1), .ref (o + 2), .int on, .ref (o + 3), .ref (o + 15), .ref (o + 21), .ref (o + 23), .ref (o + 26), .ref (o + 32), .ref (o + 40), .ref (o + 41), .ref (o + 94), .int kp])) := (fr55 _ (by omega)).trans x42
            have x58 : h52 (o + 1) = some (.inl (z 5, 16, .inr (.inr (.inr (.inr (pa)))))) := (fr55 _ (by omega)).trans x43
            have x59 : h52 (o + 41) = some (.inr (11, [.ref (o + 41 + 1), .ref (o + 41 + 2), .ref (o + 41 + 3), .int (nI sn), .int rm, .int st, .int dn, .int wt, .int br, .int gv, .int ed])) := (fr55 _ (by omega)).trans x44
            have x60 : h52 (o + 41 + 1) = some (.inl (z 3, 16, .inr (.inr (.inr (.inr (ef)))))) := (fr55 _ (by omega)).trans x45
            have x61 : h52 (o + 41 + 5 + 2 * (2 * sn)) = some (.inr (4, [.int (nI p9), .ref a, .int ((rd (pcap T) (pSt T) 0 0)), .int 0, .int 0, .int 0, .int 0, .ref (o + 41 + 5 + 2 * (2 * sn) + 1)])) := (fr55 _ (by omega)).trans x48
            have x62 : h52 (o + 41 + 5 + 2 * (2 * sn) + 1) = some (.inl (z 1, 4, .inl (fun _ => 0))) := (fr55 _ (by omega)).trans x49
            have pd63 : PrC z h52 hi (nI (pcap T)) T39 := pr41.kept (fun q _ _ => fr55 q (by omega))
            have hp_64 : PrC z h52 a _ T := hp_50.kept (fun q _ _ => fr55 q (by omega))
            refine ax_aload_n hC 3 dX11_open_112 rfl rfl ?_
            refine ax_getf (v := .ref (o + 41)) hC x57 iX11 rfl 10 (by decide) (by decide +kernel) rfl rfl dX11_open_113 ?_
            refine ax_iload hC 1 dX11_open_116 rfl ?_
            refine ax_iconst (v := 1) hC dX11_open_118 (by decide) ?_
            refine ax_iadd hC dX11_open_119 ?_
            refine ax_eqi (y := nI (sn + 1)) (nI_1 _) ?_
            refine ax_putf (v := .int (nI (sn + 1))) (ty := .int) hC tyX9 x59 iX9 tyX9_ok nmX9 rfl 3 (by decide) (by decide +kernel) rfl rfl (by decide +kernel) (rfl) rfl (Nat.le_of_ble_eq_true rfl) dX11_open_120 (fun h65 e66 f67 => ?_)
            have e66 : h65 (o + 41) = some (.inr (11, [.ref (o + 41 + 1), .ref (o + 41 + 2), .ref (o + 41 + 3), .int (nI (sn + 1)), .int rm, .int st, .int dn, .int wt, .int br, .int gv, .int ed])) := e66
            have x68 : h65 o = some (.inr (13, [.ref (o + 1), .ref (o + 2), .int on, .ref (o + 3), .ref (o + 15), .ref (o + 21), .ref (o + 23), .ref (o + 26), .ref (o + 32), .ref (o + 40), .ref (o + 41), .ref (o + 94), .int kp])) := (f67 _ (by omega)).trans x57
            have x69 : h65 (o + 1) = some (.inl (z 5, 16, .inr (.inr (.inr (.inr (pa)))))) := (f67 _ (by omega)).trans x58
            have x70 : h65 (o + 41 + 1) = some (.inl (z 3, 16, .inr (.inr (.inr (.inr (ef)))))) := (f67 _ (by omega)).trans x60
            have x71 : h65 (o + 41 + 5 + 2 * (2 * sn)) = some (.inr (4, [.int (nI p9), .ref a, .int ((rd (pcap T) (pSt T) 0 0)), .int 0, .int 0, .int 0, .int 0, .ref (o + 41 + 5 + 2 * (2 * sn) + 1)])) := (f67 _ (by omega)).trans x61
            have x72 : h65 (o + 41 + 5 + 2 * (2 * sn) + 1) = some (.inl (z 1, 4, .inl (fun _ => 0))) := (f67 _ (by omega)).trans x62
            have x73 : h65 (o + 41 + 5 + 2 * (2 * sn + 1)) = some (.inr (4, [.int (nI q9), .ref hi, .int ((rd (pcap T39) (pSt T39) 0 0)), .int 0, .int 0, .int 0, .int 0, .ref (o + 41 + 5 + 2 * (2 * sn + 1) + 1)])) := (f67 _ (by omega)).trans hE56.1
            have x74 : h65 (o + 41 + 5 + 2 * (2 * sn + 1) + 1) = some (.inl (z 1, 4, .inl (fun _ => 0))) := (f67 _ (by omega)).trans hE56.2
            have pd75 : PrC z h65 hi (nI (pcap T)) T39 := pd63.kept (fun q _ _ => f67 q (by omega))
            have hp_76 : PrC z h65 a _ T := hp_64.kept (fun q _ _ => f67 q (by omega))
            refine ax_iload hC 1 dX11_open_123 rfl ?_
            refine ax_widen (k := 9) (n := 2889) (by omega) (by omega) ?_
            refine ax_iret hC hr hlocks dX11_open_125 ?_
            exact ⟨rfl, rfl, fun q hq hq2 hq3 => ((f67 q (by omega)).trans ((fr55 q (by omega)).trans ((fr37 q (by omega)).trans (fr22 q (by omega))))), ⟨e66, ef, x70, hefi⟩, ⟨x71, x72⟩, T39, pd75, td40, ⟨x73, x74⟩⟩
          · exact absurd (nI_lt (a := 2 * sn + 1) (b := 16) (by omega) (by decide)) c16
    · exact absurd c13 (by decide)
