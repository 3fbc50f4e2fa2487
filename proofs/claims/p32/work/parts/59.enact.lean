/-- what an ACT leaves -/
def EnP (z : Nat → ClassId) (h : Nat → Option va_E) (hi o sn ee ff : Nat) (rm gv hld hld2 : Int32) (a a2 : Nat) (T T2 : PT) (r : Int32) (hi' : Nat) (h' : Nat → Option va_E) : Prop := hi' = hi ∧ (∀ q, ¬ q = o + 41 → (q < o + 41 + 5 + 2 * ee ∨ o + 41 + 5 + 2 * ee + 2 ≤ q) → (q < o + 41 + 5 + 2 * ff ∨ o + 41 + 5 + 2 * ff + 2 ≤ q) → (q < o + 41 + 3 ∨ o + 41 + 3 + 2 ≤ q) → h' q = h q) ∧ (∃ st dn wt br ed, RmS z h' (o + 41) (nI sn) rm st dn wt br gv ed ∧ st = dn + wt + br) ∧ EndI z h' (o + 41 + 5 + 2 * ee) hld a T ∧ EndI z h' (o + 41 + 5 + 2 * ff) hld2 a2 T2 ∧ (∃ pa st nu en ca cf, BlmS z h' (o + 41 + 3) pa st nu en ca cf ∧ (r = -6 → nu = 3 ∧ ca = 2 ∧ cf 0 = cf 1)) ∧ (r = -6 ∨ r = -4 ∨ 0 ≤ r)
theorem sum3a (x y w : Int32) : x + y + w + 1 = x + 1 + y + w := by rw [Int32.add_assoc (x + y) w 1, Int32.add_comm w 1, ← Int32.add_assoc (x + y) 1 w, Int32.add_assoc x y 1, Int32.add_comm y 1, ← Int32.add_assoc x 1 y]
theorem sum3b (x y w : Int32) : x + y + w + 1 = x + (y + 1) + w := by rw [Int32.add_assoc (x + y) w 1, Int32.add_comm w 1, ← Int32.add_assoc (x + y) 1 w, Int32.add_assoc x y 1]
theorem sum3c (x y w : Int32) : x + y + w + 1 = x + y + (w + 1) := by rw [Int32.add_assoc]
theorem upd_ge {f : Nat → Int32} {q : Nat} {x : Int32} (h : ∀ j, j < q → 0 ≤ f j) (hx : 0 ≤ x) : ∀ j, j < q + 1 → 0 ≤ upd f q x j := by
  intro j hj
  by_cases he : j = q
  · subst he; rw [upd_self]; exact hx
  · rw [upd_ne _ _ _ he]; exact h j (by omega)
theorem x01_ge {x : Int32} (h : x = 0 ∨ x = 1) : 0 ≤ x := by rcases h with rfl | rfl <;> decide
abbrev rmX11_enact : Room := { frames := 4, cells := 0, slots := 0, locals := 90 }
set_option maxRecDepth 100000 in
set_option maxHeartbeats 4000000 in
theorem c_X11_enact_0 (l : Launch) (D : va_G) (z : Nat → ClassId) (B : Heap) (lo hi : Nat) (h : Nat → Option va_E) (o : Nat) (on kp : Int32) (sn rr : Nat) (rm st dn wt br gv ed : Int32) (ee a n q9 : Nat) (hld es mo nd9 : Int32) (lf : Nat → Int32) (T : PT) (ff a2 n2 q2 : Nat) (hld2 en2 es2 mo2 : Int32) (lf2 : Nat → Int32) (T2 : PT) (pa st9 nu en9 ca : Int32) (cf : Nat → Int32) (hO : ObS h o on kp) (hRm : RmS z h (o + 41) (nI sn) rm st dn wt br gv ed) (hE : EndS z h (o + 41 + 5 + 2 * ee) hld (some a) (nI n) 0 es (nI q9) mo lf) (hP : PrC z h a nd9 T) (hcap : pcap T ≤ 60) (hn : n < pcap T) (hee : ee < 16) (hG : EndS z h (o + 41 + 5 + 2 * ff) hld2 (some a2) (nI n2) en2 es2 (nI q2) mo2 lf2) (hff : ff < 16) (hne : ¬ ee = ff) (hx : nI ee ^^^ 1 = nI ff) (hq9 : q9 ≤ 4) (hq2 : q2 ≤ 4) (hB : BlmS z h (o + 41 + 3) pa st9 nu en9 ca cf) (hw : wfP T) (hwD : wfD T) (hst : stK (pK T n)) (hkk : pK T n = 0) (hoa : o + 147 ≤ a) (hn2 : n2 < pcap T2) (hst2 : stK (pK T2 n2)) (hlf : ∀ j, j < q9 → 0 ≤ lf j) (hlf2 : ∀ j, j < q2 → 0 ≤ lf2 j) (hen2 : en2 = 0 ∨ en2 = 1) (hsum : st = dn + wt + br) (hrm : rm = nI rr) (hrr : rr ≤ 4) : Met l yX11_enact wsX11_enact rmX11_enact (KP D vwCl B lo hi h (ty6 z) [.ref o, .int hld, .int (nI ee), .int 0, .int 0]) (KQi D vwCl B lo (ty6 z) (EnP z h hi o sn ee ff rm gv hld hld2 a a2 T T2)) 0 0 (fun q => lo ≤ q) := by
  refine ax_met (by decide) rfl (Nat.le_of_ble_eq_true rfl) (L0 := [(0, .ref o), (1, .int hld), (2, .int (nI ee)), (3, .int 0), (4, .int 0)]) rfl ?_
  intro p e s m args below meth c hC hr hlocks hnm hargs
  have iX11 : ∀ w ∈ u_ws RX11 TX11 13, w ∈ wsX11_enact := by decide +kernel
  have iX9 : ∀ w ∈ u_ws RX9 TX9 11, w ∈ wsX11_enact := by decide +kernel
  obtain ⟨hRo, ef, hef, hefi⟩ := id hRm
  subst hrm
  refine ax_aload_n hC 0 dX11_enact_0 rfl rfl ?_
  refine ax_getf (v := .ref (o + 41)) hC hO iX11 rfl 10 (by decide) (by decide +kernel) rfl rfl dX11_enact_1 ?_
  refine ax_dup hC dX11_enact_4 rfl ?_
  refine ax_getf (v := .int st) hC hRo iX9 rfl 5 (by decide) (by decide +kernel) rfl rfl dX11_enact_5 ?_
  refine ax_iconst (v := 1) hC dX11_enact_8 (by decide) ?_
  refine ax_iadd hC dX11_enact_9 ?_
  refine ax_putf (v := .int (st + 1)) (ty := .int) hC tyX9 hRo iX9 tyX9_ok nmX9 rfl 5 (by decide) (by decide +kernel) rfl rfl (by decide +kernel) (rfl) rfl (Nat.le_of_ble_eq_true rfl) dX11_enact_10 (fun h1 e2 f3 => ?_)
  have e2 : h1 (o + 41) = some (.inr (11, [.ref (o + 41 + 1), .ref (o + 41 + 2), .ref (o + 41 + 3), .int (nI sn), .int (nI rr), .int (st + 1), .int dn, .int wt, .int br, .int gv, .int ed])) := e2
  have x4 : h1 o = some (.inr (13, [.ref (o + 1), .ref (o + 2), .int on, .ref (o + 3), .ref (o + 15), .ref (o + 21), .ref (o + 23), .ref (o + 26), .ref (o + 32), .ref (o + 40), .ref (o + 41), .ref (o + 94), .int kp])) := (f3 _ (by omega)).trans hO
  have x5 : h1 (o + 41 + 1) = some (.inl (z 3, 16, .inr (.inr (.inr (.inr (ef)))))) := (f3 _ (by omega)).trans hef
  have x6 : h1 (o + 41 + 5 + 2 * ee) = some (.inr (4, [.int hld, .ref a, .int (nI n), .int 0, .int es, .int (nI q9), .int mo, .ref (o + 41 + 5 + 2 * ee + 1)])) := (f3 _ (by omega)).trans hE.1
  have x7 : h1 (o + 41 + 5 + 2 * ee + 1) = some (.inl (z 1, 4, .inl (lf))) := (f3 _ (by omega)).trans hE.2
  have x8 : h1 (o + 41 + 5 + 2 * ff) = some (.inr (4, [.int hld2, .ref a2, .int (nI n2), .int en2, .int es2, .int (nI q2), .int mo2, .ref (o + 41 + 5 + 2 * ff + 1)])) := (f3 _ (by omega)).trans hG.1
  have x9 : h1 (o + 41 + 5 + 2 * ff + 1) = some (.inl (z 1, 4, .inl (lf2))) := (f3 _ (by omega)).trans hG.2
  have x10 : h1 (o + 41 + 3) = some (.inr (2, [.int pa, .int st9, .int nu, .int en9, .int ca, .ref (o + 41 + 3 + 1)])) := (f3 _ (by omega)).trans hB.1
  have x11 : h1 (o + 41 + 3 + 1) = some (.inl (z 1, 3, .inl (cf))) := (f3 _ (by omega)).trans hB.2
  have hp_12 : PrC z h1 a _ T := hP.kept (fun q _ _ => f3 q (by omega))
  refine ax_aload_n hC 0 dX11_enact_13 rfl rfl ?_
  refine ax_iload_n hC 1 dX11_enact_14 rfl rfl ?_
  refine ax_iload_n hC 2 dX11_enact_15 rfl rfl ?_
  refine ax_iload_n hC 3 dX11_enact_16 rfl rfl ?_
  refine ax_iload hC 4 dX11_enact_17 rfl ?_
  refine ax_callVp (st := []) hC [.int hld, .int (nI ee), .int 0, .int 0] x4 rfl (c_X11_judge_0 l D z B lo _ h1 o on kp sn (nI rr) (st + 1) dn wt br gv ed ee a n q9 hld es mo nd9 lf T ff a2 n2 q2 hld2 en2 es2 mo2 lf2 x4 ⟨e2, ef, x5, hefi⟩ ⟨x6, x7⟩ hp_12 hcap hn hee ⟨x8, x9⟩ hff hne hx hq9 hq2 hw hkk) (cwV 4 hC.1.2.2.2.2 gX11_enact_X11_judge rfl rfl rfl (by decide +kernel) ⟨Nat.le_of_ble_eq_true rfl, Nat.le_of_ble_eq_true rfl⟩) rfl rfl (Nat.le_of_ble_eq_true rfl) dX11_enact_19 ⟨Nat.le_of_ble_eq_true rfl, Nat.le_of_ble_eq_true rfl⟩ (fun r13 er14 => ?_)
  subst er14
  refine ax_istore hC [(5, .int 0), (0, .ref o), (1, .int hld), (2, .int (nI ee)), (3, .int 0), (4, .int 0)] dX11_enact_22 (by decide) rfl ?_
  refine ax_iload hC 0 dX11_enact_24 rfl ?_
  refine ax_bipush (v := (-4)) hC dX11_enact_26 (by decide) ?_
  refine ax_icmp_ne (tgt := 47) hC dX11_enact_28 (by decide) (fun c15 => ?_) (fun c15 => ?_)
  · refine ax_iload hC 0 dX11_enact_47 rfl ?_
    refine ax_if_eq (tgt := 79) hC dX11_enact_49 (by decide) (fun c16 => ?_) (fun c16 => ?_)
    · refine ax_aload_n hC 1 dX11_enact_79 rfl rfl ?_
      refine ax_getf (v := .ref (o + 41)) hC x4 iX11 rfl 10 (by decide) (by decide +kernel) rfl rfl dX11_enact_80 ?_
      refine ax_dup hC dX11_enact_83 rfl ?_
      refine ax_getf (v := .int dn) hC e2 iX9 rfl 6 (by decide) (by decide +kernel) rfl rfl dX11_enact_84 ?_
      refine ax_iconst (v := 1) hC dX11_enact_87 (by decide) ?_
      refine ax_iadd hC dX11_enact_88 ?_
      refine ax_putf (v := .int (dn + 1)) (ty := .int) hC tyX9 e2 iX9 tyX9_ok nmX9 rfl 6 (by decide) (by decide +kernel) rfl rfl (by decide +kernel) (rfl) rfl (Nat.le_of_ble_eq_true rfl) dX11_enact_89 (fun h17 e18 f19 => ?_)
      have e18 : h17 (o + 41) = some (.inr (11, [.ref (o + 41 + 1), .ref (o + 41 + 2), .ref (o + 41 + 3), .int (nI sn), .int (nI rr), .int (st + 1), .int (dn + 1), .int wt, .int br, .int gv, .int ed])) := e18
      have x20 : h17 o = some (.inr (13, [.ref (o + 1), .ref (o + 2), .int on, .ref (o + 3), .ref (o + 15), .ref (o + 21), .ref (o + 23), .ref (o + 26), .ref (o + 32), .ref (o + 40), .ref (o + 41), .ref (o + 94), .int kp])) := (f19 _ (by omega)).trans x4
      have x21 : h17 (o + 41 + 1) = some (.inl (z 3, 16, .inr (.inr (.inr (.inr (ef)))))) := (f19 _ (by omega)).trans x5
      have x22 : h17 (o + 41 + 5 + 2 * ee) = some (.inr (4, [.int hld, .ref a, .int (nI n), .int 0, .int es, .int (nI q9), .int mo, .ref (o + 41 + 5 + 2 * ee + 1)])) := (f19 _ (by omega)).trans x6
      have x23 : h17 (o + 41 + 5 + 2 * ee + 1) = some (.inl (z 1, 4, .inl (lf))) := (f19 _ (by omega)).trans x7
      have x24 : h17 (o + 41 + 5 + 2 * ff) = some (.inr (4, [.int hld2, .ref a2, .int (nI n2), .int en2, .int es2, .int (nI q2), .int mo2, .ref (o + 41 + 5 + 2 * ff + 1)])) := (f19 _ (by omega)).trans x8
      have x25 : h17 (o + 41 + 5 + 2 * ff + 1) = some (.inl (z 1, 4, .inl (lf2))) := (f19 _ (by omega)).trans x9
      have x26 : h17 (o + 41 + 3) = some (.inr (2, [.int pa, .int st9, .int nu, .int en9, .int ca, .ref (o + 41 + 3 + 1)])) := (f19 _ (by omega)).trans x10
      have x27 : h17 (o + 41 + 3 + 1) = some (.inl (z 1, 3, .inl (cf))) := (f19 _ (by omega)).trans x11
      have hp_28 : PrC z h17 a _ T := hp_12.kept (fun q _ _ => f19 q (by omega))
      refine ax_aload_n hC 1 dX11_enact_92 rfl rfl ?_
      refine ax_iload_n hC 2 dX11_enact_93 rfl rfl ?_
      refine ax_iload_n hC 3 dX11_enact_94 rfl rfl ?_
      refine ax_iload_n hC 4 dX11_enact_95 rfl rfl ?_
      refine ax_iload hC 5 dX11_enact_96 rfl ?_
      refine ax_callVi (st := []) hC [.int hld, .int (nI ee), .int 0, .int 0] x20 rfl (c_X11_perform_0 l D z B lo _ h17 o on kp sn (nI rr) (st + 1) (dn + 1) wt br gv ed ee a n q9 hld es mo nd9 lf T ff a2 n2 q2 hld2 en2 es2 mo2 lf2 x20 ⟨e18, ef, x21, hefi⟩ ⟨x22, x23⟩ hp_28 hcap hn hee ⟨x24, x25⟩ hff hne hx (by omega) (by omega) hw hwD hst hkk hoa) (cwV 4 hC.1.2.2.2.2 gX11_enact_X11_perform rfl rfl rfl (by decide +kernel) ⟨Nat.le_of_ble_eq_true rfl, Nat.le_of_ble_eq_true rfl⟩) rfl rfl (Nat.le_of_ble_eq_true rfl) dX11_enact_98 ⟨Nat.le_of_ble_eq_true rfl, Nat.le_of_ble_eq_true rfl⟩ (fun r29 hi30 h31 hp32 => ?_)
      obtain ⟨er33, ei34, fr35, ⟨ed36, hRm37⟩, hE38, hG39⟩ := hp32
      replace ei34 := ei34.symm
      subst ei34
      subst er33
      replace fr35 : ∀ q, (¬ q = o + 41 ∧ (q < o + 41 + 5 + 2 * ee ∨ o + 41 + 5 + 2 * ee + 2 ≤ q) ∧ (q < o + 41 + 5 + 2 * ff ∨ o + 41 + 5 + 2 * ff + 2 ≤ q)) → h31 q = h17 q := fun q hq => fr35 q hq.1 hq.2.1 hq.2.2
      have x40 : h31 (o + 41 + 3) = some (.inr (2, [.int pa, .int st9, .int nu, .int en9, .int ca, .ref (o + 41 + 3 + 1)])) := (fr35 _ (by omega)).trans x26
      have x41 : h31 (o + 41 + 3 + 1) = some (.inl (z 1, 3, .inl (cf))) := (fr35 _ (by omega)).trans x27
      have hp_42 : PrC z h31 a _ T := hp_28.kept (fun q _ _ => fr35 q (by omega))
      refine ax_iret hC hr hlocks dX11_enact_101 ?_
      exact ⟨rfl, fun q hq hq2 hq3 hq4 => ((fr35 q (by omega)).trans ((f19 q (by omega)).trans (f3 q (by omega)))), ⟨_, _, _, _, _, hRm37, by rw [hsum]; exact sum3a _ _ _⟩, ⟨n, 1, _, q9, mo, lf, hE38, hn, hst, hq9, hlf, Or.inr rfl⟩, ⟨n2, en2, es2, q2, mo2, lf2, hG39, hn2, hst2, hq2, hlf2, hen2⟩, ⟨_, _, _, _, _, _, ⟨x40, x41⟩, fun q9_ => absurd q9_ (by decide)⟩, Or.inr (Or.inr (by decide))⟩
    · exact absurd c16 (by decide)
  · exact absurd c15 (by decide)

set_option maxRecDepth 100000 in
set_option maxHeartbeats 4000000 in
theorem c_X11_enact_1 (l : Launch) (D : va_G) (z : Nat → ClassId) (B : Heap) (lo hi : Nat) (h : Nat → Option va_E) (o : Nat) (on kp : Int32) (sn rr : Nat) (rm st dn wt br gv ed : Int32) (ee a n q9 : Nat) (hld es mo nd9 : Int32) (lf : Nat → Int32) (T : PT) (ff a2 n2 q2 : Nat) (hld2 en2 es2 mo2 : Int32) (lf2 : Nat → Int32) (T2 : PT) (pa st9 nu en9 ca : Int32) (cf : Nat → Int32) (x : Int32) (hO : ObS h o on kp) (hRm : RmS z h (o + 41) (nI sn) rm st dn wt br gv ed) (hE : EndS z h (o + 41 + 5 + 2 * ee) hld (some a) (nI n) 0 es (nI q9) mo lf) (hP : PrC z h a nd9 T) (hcap : pcap T ≤ 60) (hn : n < pcap T) (hee : ee < 16) (hG : EndS z h (o + 41 + 5 + 2 * ff) hld2 (some a2) (nI n2) en2 es2 (nI q2) mo2 lf2) (hff : ff < 16) (hne : ¬ ee = ff) (hx : nI ee ^^^ 1 = nI ff) (hq9 : q9 ≤ 4) (hq2 : q2 ≤ 4) (hB : BlmS z h (o + 41 + 3) pa st9 nu en9 ca cf) (hw : wfP T) (hwD : wfD T) (hst : stK (pK T n)) (hkk : pK T n = 1) (hoa : o + 147 ≤ a) (hn2 : n2 < pcap T2) (hst2 : stK (pK T2 n2)) (hlf : ∀ j, j < q9 → 0 ≤ lf j) (hlf2 : ∀ j, j < q2 → 0 ≤ lf2 j) (hen2 : en2 = 0 ∨ en2 = 1) (hsum : st = dn + wt + br) (hrm : rm = nI rr) (hrr : rr ≤ 4) (hx01 : x = 0 ∨ x = 1) : Met l yX11_enact wsX11_enact rmX11_enact (KP D vwCl B lo hi h (ty6 z) [.ref o, .int hld, .int (nI ee), .int 1, .int x]) (KQi D vwCl B lo (ty6 z) (EnP z h hi o sn ee ff rm gv hld hld2 a a2 T T2)) 0 0 (fun q => lo ≤ q) := by
  refine ax_met (by decide) rfl (Nat.le_of_ble_eq_true rfl) (L0 := [(0, .ref o), (1, .int hld), (2, .int (nI ee)), (3, .int 1), (4, .int x)]) rfl ?_
  intro p e s m args below meth c hC hr hlocks hnm hargs
  have iX11 : ∀ w ∈ u_ws RX11 TX11 13, w ∈ wsX11_enact := by decide +kernel
  have iX9 : ∀ w ∈ u_ws RX9 TX9 11, w ∈ wsX11_enact := by decide +kernel
  obtain ⟨hRo, ef, hef, hefi⟩ := id hRm
  subst hrm
  refine ax_aload_n hC 0 dX11_enact_0 rfl rfl ?_
  refine ax_getf (v := .ref (o + 41)) hC hO iX11 rfl 10 (by decide) (by decide +kernel) rfl rfl dX11_enact_1 ?_
  refine ax_dup hC dX11_enact_4 rfl ?_
  refine ax_getf (v := .int st) hC hRo iX9 rfl 5 (by decide) (by decide +kernel) rfl rfl dX11_enact_5 ?_
  refine ax_iconst (v := 1) hC dX11_enact_8 (by decide) ?_
  refine ax_iadd hC dX11_enact_9 ?_
  refine ax_putf (v := .int (st + 1)) (ty := .int) hC tyX9 hRo iX9 tyX9_ok nmX9 rfl 5 (by decide) (by decide +kernel) rfl rfl (by decide +kernel) (rfl) rfl (Nat.le_of_ble_eq_true rfl) dX11_enact_10 (fun h1 e2 f3 => ?_)
  have e2 : h1 (o + 41) = some (.inr (11, [.ref (o + 41 + 1), .ref (o + 41 + 2), .ref (o + 41 + 3), .int (nI sn), .int (nI rr), .int (st + 1), .int dn, .int wt, .int br, .int gv, .int ed])) := e2
  have x4 : h1 o = some (.inr (13, [.ref (o + 1), .ref (o + 2), .int on, .ref (o + 3), .ref (o + 15), .ref (o + 21), .ref (o + 23), .ref (o + 26), .ref (o + 32), .ref (o + 40), .ref (o + 41), .ref (o + 94), .int kp])) := (f3 _ (by omega)).trans hO
  have x5 : h1 (o + 41 + 1) = some (.inl (z 3, 16, .inr (.inr (.inr (.inr (ef)))))) := (f3 _ (by omega)).trans hef
  have x6 : h1 (o + 41 + 5 + 2 * ee) = some (.inr (4, [.int hld, .ref a, .int (nI n), .int 0, .int es, .int (nI q9), .int mo, .ref (o + 41 + 5 + 2 * ee + 1)])) := (f3 _ (by omega)).trans hE.1
  have x7 : h1 (o + 41 + 5 + 2 * ee + 1) = some (.inl (z 1, 4, .inl (lf))) := (f3 _ (by omega)).trans hE.2
  have x8 : h1 (o + 41 + 5 + 2 * ff) = some (.inr (4, [.int hld2, .ref a2, .int (nI n2), .int en2, .int es2, .int (nI q2), .int mo2, .ref (o + 41 + 5 + 2 * ff + 1)])) := (f3 _ (by omega)).trans hG.1
  have x9 : h1 (o + 41 + 5 + 2 * ff + 1) = some (.inl (z 1, 4, .inl (lf2))) := (f3 _ (by omega)).trans hG.2
  have x10 : h1 (o + 41 + 3) = some (.inr (2, [.int pa, .int st9, .int nu, .int en9, .int ca, .ref (o + 41 + 3 + 1)])) := (f3 _ (by omega)).trans hB.1
  have x11 : h1 (o + 41 + 3 + 1) = some (.inl (z 1, 3, .inl (cf))) := (f3 _ (by omega)).trans hB.2
  have hp_12 : PrC z h1 a _ T := hP.kept (fun q _ _ => f3 q (by omega))
  refine ax_aload_n hC 0 dX11_enact_13 rfl rfl ?_
  refine ax_iload_n hC 1 dX11_enact_14 rfl rfl ?_
  refine ax_iload_n hC 2 dX11_enact_15 rfl rfl ?_
  refine ax_iload_n hC 3 dX11_enact_16 rfl rfl ?_
  refine ax_iload hC 4 dX11_enact_17 rfl ?_
  refine ax_callVp (st := []) hC [.int hld, .int (nI ee), .int 1, .int x] x4 rfl (c_X11_judge_1 l D z B lo _ h1 o on kp sn (nI rr) (st + 1) dn wt br gv ed ee a n q9 hld es mo nd9 lf T ff a2 n2 q2 hld2 en2 es2 mo2 lf2 x x4 ⟨e2, ef, x5, hefi⟩ ⟨x6, x7⟩ hp_12 hcap hn hee ⟨x8, x9⟩ hff hne hx hq9 hq2 hw hkk hx01) (cwV 4 hC.1.2.2.2.2 gX11_enact_X11_judge rfl rfl rfl (by decide +kernel) ⟨Nat.le_of_ble_eq_true rfl, Nat.le_of_ble_eq_true rfl⟩) rfl rfl (Nat.le_of_ble_eq_true rfl) dX11_enact_19 ⟨Nat.le_of_ble_eq_true rfl, Nat.le_of_ble_eq_true rfl⟩ (fun r13 er14 => ?_)
  rcases er14 with er14 | er14 | ⟨er14, hwf⟩
  · subst er14
    refine ax_istore hC [(5, .int 3), (0, .ref o), (1, .int hld), (2, .int (nI ee)), (3, .int 1), (4, .int x)] dX11_enact_22 (by decide) rfl ?_
    refine ax_iload hC 0 dX11_enact_24 rfl ?_
    refine ax_bipush (v := (-4)) hC dX11_enact_26 (by decide) ?_
    refine ax_icmp_ne (tgt := 47) hC dX11_enact_28 (by decide) (fun c15 => ?_) (fun c15 => ?_)
    · refine ax_iload hC 0 dX11_enact_47 rfl ?_
      refine ax_if_eq (tgt := 79) hC dX11_enact_49 (by decide) (fun c16 => ?_) (fun c16 => ?_)
      · exact absurd c16 (by decide)
      · refine ax_aload_n hC 1 dX11_enact_52 rfl rfl ?_
        refine ax_getf (v := .ref (o + 41)) hC x4 iX11 rfl 10 (by decide) (by decide +kernel) rfl rfl dX11_enact_53 ?_
        refine ax_dup hC dX11_enact_56 rfl ?_
        refine ax_getf (v := .int br) hC e2 iX9 rfl 8 (by decide) (by decide +kernel) rfl rfl dX11_enact_57 ?_
        refine ax_iconst (v := 1) hC dX11_enact_60 (by decide) ?_
        refine ax_iadd hC dX11_enact_61 ?_
        refine ax_putf (v := .int (br + 1)) (ty := .int) hC tyX9 e2 iX9 tyX9_ok nmX9 rfl 8 (by decide) (by decide +kernel) rfl rfl (by decide +kernel) (rfl) rfl (Nat.le_of_ble_eq_true rfl) dX11_enact_62 (fun h17 e18 f19 => ?_)
        have e18 : h17 (o + 41) = some (.inr (11, [.ref (o + 41 + 1), .ref (o + 41 + 2), .ref (o + 41 + 3), .int (nI sn), .int (nI rr), .int (st + 1), .int dn, .int wt, .int (br + 1), .int gv, .int ed])) := e18
        have x20 : h17 o = some (.inr (13, [.ref (o + 1), .ref (o + 2), .int on, .ref (o + 3), .ref (o + 15), .ref (o + 21), .ref (o + 23), .ref (o + 26), .ref (o + 32), .ref (o + 40), .ref (o + 41), .ref (o + 94), .int kp])) := (f19 _ (by omega)).trans x4
        have x21 : h17 (o + 41 + 1) = some (.inl (z 3, 16, .inr (.inr (.inr (.inr (ef)))))) := (f19 _ (by omega)).trans x5
        have x22 : h17 (o + 41 + 5 + 2 * ee) = some (.inr (4, [.int hld, .ref a, .int (nI n), .int 0, .int es, .int (nI q9), .int mo, .ref (o + 41 + 5 + 2 * ee + 1)])) := (f19 _ (by omega)).trans x6
        have x23 : h17 (o + 41 + 5 + 2 * ee + 1) = some (.inl (z 1, 4, .inl (lf))) := (f19 _ (by omega)).trans x7
        have x24 : h17 (o + 41 + 5 + 2 * ff) = some (.inr (4, [.int hld2, .ref a2, .int (nI n2), .int en2, .int es2, .int (nI q2), .int mo2, .ref (o + 41 + 5 + 2 * ff + 1)])) := (f19 _ (by omega)).trans x8
        have x25 : h17 (o + 41 + 5 + 2 * ff + 1) = some (.inl (z 1, 4, .inl (lf2))) := (f19 _ (by omega)).trans x9
        have x26 : h17 (o + 41 + 3) = some (.inr (2, [.int pa, .int st9, .int nu, .int en9, .int ca, .ref (o + 41 + 3 + 1)])) := (f19 _ (by omega)).trans x10
        have x27 : h17 (o + 41 + 3 + 1) = some (.inl (z 1, 3, .inl (cf))) := (f19 _ (by omega)).trans x11
        have hp_28 : PrC z h17 a _ T := hp_12.kept (fun q _ _ => f19 q (by omega))
        refine ax_aload_n hC 1 dX11_enact_65 rfl rfl ?_
        refine ax_iload_n hC 2 dX11_enact_66 rfl rfl ?_
        refine ax_iload_n hC 3 dX11_enact_67 rfl rfl ?_
        refine ax_iload_n hC 4 dX11_enact_68 rfl rfl ?_
        refine ax_iload hC 5 dX11_enact_69 rfl ?_
        refine ax_iload hC 0 dX11_enact_71 rfl ?_
        refine ax_callVv (st := []) hC [.int hld, .int (nI ee), .int 1, .int x, .int 3] x20 rfl (c_X11_accuse_1 l D z B lo _ h17 o on kp sn (nI rr) (st + 1) dn wt (br + 1) gv ed ee a n q9 hld 0 es mo nd9 lf T pa st9 nu en9 ca cf x x20 ⟨e18, ef, x21, hefi⟩ ⟨x22, x23⟩ hp_28 hcap hn hee ⟨x26, x27⟩ hkk hoa) (cwV 5 hC.1.2.2.2.2 gX11_enact_X11_accuse rfl rfl rfl (by decide +kernel) ⟨Nat.le_of_ble_eq_true rfl, Nat.le_of_ble_eq_true rfl⟩) rfl rfl (Nat.le_of_ble_eq_true rfl) dX11_enact_73 ⟨Nat.le_of_ble_eq_true rfl, Nat.le_of_ble_eq_true rfl⟩ (fun hi29 h30 hp31 => ?_)
        obtain ⟨ei32, fr33, cf34, hB35, hc36⟩ := hp31
        replace ei32 := ei32.symm
        subst ei32
        have x37 : h30 o = some (.inr (13, [.ref (o + 1), .ref (o + 2), .int on, .ref (o + 3), .ref (o + 15), .ref (o + 21), .ref (o + 23), .ref (o + 26), .ref (o + 32), .ref (o + 40), .ref (o + 41), .ref (o + 94), .int kp])) := (fr33 _ (by omega)).trans x20
        have x38 : h30 (o + 41 + 1) = some (.inl (z 3, 16, .inr (.inr (.inr (.inr (ef)))))) := (fr33 _ (by omega)).trans x21
        have x39 : h30 (o + 41 + 5 + 2 * ee) = some (.inr (4, [.int hld, .ref a, .int (nI n), .int 0, .int es, .int (nI q9), .int mo, .ref (o + 41 + 5 + 2 * ee + 1)])) := (fr33 _ (by omega)).trans x22
        have x40 : h30 (o + 41 + 5 + 2 * ee + 1) = some (.inl (z 1, 4, .inl (lf))) := (fr33 _ (by omega)).trans x23
        have x41 : h30 (o + 41 + 5 + 2 * ff) = some (.inr (4, [.int hld2, .ref a2, .int (nI n2), .int en2, .int es2, .int (nI q2), .int mo2, .ref (o + 41 + 5 + 2 * ff + 1)])) := (fr33 _ (by omega)).trans x24
        have x42 : h30 (o + 41 + 5 + 2 * ff + 1) = some (.inl (z 1, 4, .inl (lf2))) := (fr33 _ (by omega)).trans x25
        have x43 : h30 (o + 41) = some (.inr (11, [.ref (o + 41 + 1), .ref (o + 41 + 2), .ref (o + 41 + 3), .int (nI sn), .int (nI rr), .int (st + 1), .int dn, .int wt, .int (br + 1), .int gv, .int ed])) := (fr33 _ (by omega)).trans e18
        have hp_44 : PrC z h30 a _ T := hp_28.kept (fun q _ _ => fr33 q (by omega))
        refine ax_bipush (v := (-6)) hC dX11_enact_76 (by decide) ?_
        refine ax_iret hC hr hlocks dX11_enact_78 ?_
        exact ⟨rfl, fun q hq hq2 hq3 hq4 => ((fr33 q (by omega)).trans ((f19 q (by omega)).trans (f3 q (by omega)))), ⟨_, _, _, _, _, ⟨x43, ef, x38, hefi⟩, by rw [hsum]; exact sum3c _ _ _⟩, ⟨n, 0, es, q9, mo, lf, ⟨x39, x40⟩, hn, hst, hq9, hlf, Or.inl rfl⟩, ⟨n2, en2, es2, q2, mo2, lf2, ⟨x41, x42⟩, hn2, hst2, hq2, hlf2, hen2⟩, ⟨_, _, _, _, _, _, hB35, fun _ => ⟨rfl, rfl, hc36⟩⟩, Or.inl rfl⟩
    · exact absurd c15 (by decide)
  · subst er14
    refine ax_istore hC [(5, .int (-4)), (0, .ref o), (1, .int hld), (2, .int (nI ee)), (3, .int 1), (4, .int x)] dX11_enact_22 (by decide) rfl ?_
    refine ax_iload hC 0 dX11_enact_24 rfl ?_
    refine ax_bipush (v := (-4)) hC dX11_enact_26 (by decide) ?_
    refine ax_icmp_ne (tgt := 47) hC dX11_enact_28 (by decide) (fun c45 => ?_) (fun c45 => ?_)
    · exact absurd c45 (by decide)
    · refine ax_aload_n hC 1 dX11_enact_31 rfl rfl ?_
      refine ax_getf (v := .ref (o + 41)) hC x4 iX11 rfl 10 (by decide) (by decide +kernel) rfl rfl dX11_enact_32 ?_
      refine ax_dup hC dX11_enact_35 rfl ?_
      refine ax_getf (v := .int wt) hC e2 iX9 rfl 7 (by decide) (by decide +kernel) rfl rfl dX11_enact_36 ?_
      refine ax_iconst (v := 1) hC dX11_enact_39 (by decide) ?_
      refine ax_iadd hC dX11_enact_40 ?_
      refine ax_putf (v := .int (wt + 1)) (ty := .int) hC tyX9 e2 iX9 tyX9_ok nmX9 rfl 7 (by decide) (by decide +kernel) rfl rfl (by decide +kernel) (rfl) rfl (Nat.le_of_ble_eq_true rfl) dX11_enact_41 (fun h46 e47 f48 => ?_)
      have e47 : h46 (o + 41) = some (.inr (11, [.ref (o + 41 + 1), .ref (o + 41 + 2), .ref (o + 41 + 3), .int (nI sn), .int (nI rr), .int (st + 1), .int dn, .int (wt + 1), .int br, .int gv, .int ed])) := e47
      have x49 : h46 o = some (.inr (13, [.ref (o + 1), .ref (o + 2), .int on, .ref (o + 3), .ref (o + 15), .ref (o + 21), .ref (o + 23), .ref (o + 26), .ref (o + 32), .ref (o + 40), .ref (o + 41), .ref (o + 94), .int kp])) := (f48 _ (by omega)).trans x4
      have x50 : h46 (o + 41 + 1) = some (.inl (z 3, 16, .inr (.inr (.inr (.inr (ef)))))) := (f48 _ (by omega)).trans x5
      have x51 : h46 (o + 41 + 5 + 2 * ee) = some (.inr (4, [.int hld, .ref a, .int (nI n), .int 0, .int es, .int (nI q9), .int mo, .ref (o + 41 + 5 + 2 * ee + 1)])) := (f48 _ (by omega)).trans x6
      have x52 : h46 (o + 41 + 5 + 2 * ee + 1) = some (.inl (z 1, 4, .inl (lf))) := (f48 _ (by omega)).trans x7
      have x53 : h46 (o + 41 + 5 + 2 * ff) = some (.inr (4, [.int hld2, .ref a2, .int (nI n2), .int en2, .int es2, .int (nI q2), .int mo2, .ref (o + 41 + 5 + 2 * ff + 1)])) := (f48 _ (by omega)).trans x8
      have x54 : h46 (o + 41 + 5 + 2 * ff + 1) = some (.inl (z 1, 4, .inl (lf2))) := (f48 _ (by omega)).trans x9
      have x55 : h46 (o + 41 + 3) = some (.inr (2, [.int pa, .int st9, .int nu, .int en9, .int ca, .ref (o + 41 + 3 + 1)])) := (f48 _ (by omega)).trans x10
      have x56 : h46 (o + 41 + 3 + 1) = some (.inl (z 1, 3, .inl (cf))) := (f48 _ (by omega)).trans x11
      have hp_57 : PrC z h46 a _ T := hp_12.kept (fun q _ _ => f48 q (by omega))
      refine ax_bipush (v := (-4)) hC dX11_enact_44 (by decide) ?_
      refine ax_iret hC hr hlocks dX11_enact_46 ?_
      exact ⟨rfl, fun q hq hq2 hq3 hq4 => ((f48 q (by omega)).trans (f3 q (by omega))), ⟨_, _, _, _, _, ⟨e47, ef, x50, hefi⟩, by rw [hsum]; exact sum3b _ _ _⟩, ⟨n, 0, es, q9, mo, lf, ⟨x51, x52⟩, hn, hst, hq9, hlf, Or.inl rfl⟩, ⟨n2, en2, es2, q2, mo2, lf2, ⟨x53, x54⟩, hn2, hst2, hq2, hlf2, hen2⟩, ⟨_, _, _, _, _, _, ⟨x55, x56⟩, fun q9_ => absurd q9_ (by decide)⟩, Or.inr (Or.inl rfl)⟩
  · subst er14
    have hq24 : q2 < 4 := by have h9 := (nI_ltI (a := q2) (b := rr) (by omega) (by omega)).mp hwf; omega
    refine ax_istore hC [(5, .int 0), (0, .ref o), (1, .int hld), (2, .int (nI ee)), (3, .int 1), (4, .int x)] dX11_enact_22 (by decide) rfl ?_
    refine ax_iload hC 0 dX11_enact_24 rfl ?_
    refine ax_bipush (v := (-4)) hC dX11_enact_26 (by decide) ?_
    refine ax_icmp_ne (tgt := 47) hC dX11_enact_28 (by decide) (fun c58 => ?_) (fun c58 => ?_)
    · refine ax_iload hC 0 dX11_enact_47 rfl ?_
      refine ax_if_eq (tgt := 79) hC dX11_enact_49 (by decide) (fun c59 => ?_) (fun c59 => ?_)
      · refine ax_aload_n hC 1 dX11_enact_79 rfl rfl ?_
        refine ax_getf (v := .ref (o + 41)) hC x4 iX11 rfl 10 (by decide) (by decide +kernel) rfl rfl dX11_enact_80 ?_
        refine ax_dup hC dX11_enact_83 rfl ?_
        refine ax_getf (v := .int dn) hC e2 iX9 rfl 6 (by decide) (by decide +kernel) rfl rfl dX11_enact_84 ?_
        refine ax_iconst (v := 1) hC dX11_enact_87 (by decide) ?_
        refine ax_iadd hC dX11_enact_88 ?_
        refine ax_putf (v := .int (dn + 1)) (ty := .int) hC tyX9 e2 iX9 tyX9_ok nmX9 rfl 6 (by decide) (by decide +kernel) rfl rfl (by decide +kernel) (rfl) rfl (Nat.le_of_ble_eq_true rfl) dX11_enact_89 (fun h60 e61 f62 => ?_)
        have e61 : h60 (o + 41) = some (.inr (11, [.ref (o + 41 + 1), .ref (o + 41 + 2), .ref (o + 41 + 3), .int (nI sn), .int (nI rr), .int (st + 1), .int (dn + 1), .int wt, .int br, .int gv, .int ed])) := e61
        have x63 : h60 o = some (.inr (13, [.ref (o + 1), .ref (o + 2), .int on, .ref (o + 3), .ref (o + 15), .ref (o + 21), .ref (o + 23), .ref (o + 26), .ref (o + 32), .ref (o + 40), .ref (o + 41), .ref (o + 94), .int kp])) := (f62 _ (by omega)).trans x4
        have x64 : h60 (o + 41 + 1) = some (.inl (z 3, 16, .inr (.inr (.inr (.inr (ef)))))) := (f62 _ (by omega)).trans x5
        have x65 : h60 (o + 41 + 5 + 2 * ee) = some (.inr (4, [.int hld, .ref a, .int (nI n), .int 0, .int es, .int (nI q9), .int mo, .ref (o + 41 + 5 + 2 * ee + 1)])) := (f62 _ (by omega)).trans x6
        have x66 : h60 (o + 41 + 5 + 2 * ee + 1) = some (.inl (z 1, 4, .inl (lf))) := (f62 _ (by omega)).trans x7
        have x67 : h60 (o + 41 + 5 + 2 * ff) = some (.inr (4, [.int hld2, .ref a2, .int (nI n2), .int en2, .int es2, .int (nI q2), .int mo2, .ref (o + 41 + 5 + 2 * ff + 1)])) := (f62 _ (by omega)).trans x8
        have x68 : h60 (o + 41 + 5 + 2 * ff + 1) = some (.inl (z 1, 4, .inl (lf2))) := (f62 _ (by omega)).trans x9
        have x69 : h60 (o + 41 + 3) = some (.inr (2, [.int pa, .int st9, .int nu, .int en9, .int ca, .ref (o + 41 + 3 + 1)])) := (f62 _ (by omega)).trans x10
        have x70 : h60 (o + 41 + 3 + 1) = some (.inl (z 1, 3, .inl (cf))) := (f62 _ (by omega)).trans x11
        have hp_71 : PrC z h60 a _ T := hp_12.kept (fun q _ _ => f62 q (by omega))
        refine ax_aload_n hC 1 dX11_enact_92 rfl rfl ?_
        refine ax_iload_n hC 2 dX11_enact_93 rfl rfl ?_
        refine ax_iload_n hC 3 dX11_enact_94 rfl rfl ?_
        refine ax_iload_n hC 4 dX11_enact_95 rfl rfl ?_
        refine ax_iload hC 5 dX11_enact_96 rfl ?_
        refine ax_callVi (st := []) hC [.int hld, .int (nI ee), .int 1, .int x] x63 rfl (c_X11_perform_1 l D z B lo _ h60 o on kp sn (nI rr) (st + 1) (dn + 1) wt br gv ed ee a n q9 hld es mo nd9 lf T ff a2 n2 q2 hld2 en2 es2 mo2 lf2 x x63 ⟨e61, ef, x64, hefi⟩ ⟨x65, x66⟩ hp_71 hcap hn hee ⟨x67, x68⟩ hff hne hx (by omega) (by omega) hw hwD hst hkk hoa) (cwV 4 hC.1.2.2.2.2 gX11_enact_X11_perform rfl rfl rfl (by decide +kernel) ⟨Nat.le_of_ble_eq_true rfl, Nat.le_of_ble_eq_true rfl⟩) rfl rfl (Nat.le_of_ble_eq_true rfl) dX11_enact_98 ⟨Nat.le_of_ble_eq_true rfl, Nat.le_of_ble_eq_true rfl⟩ (fun r72 hi73 h74 hp75 => ?_)
        obtain ⟨er76, ei77, fr78, ⟨ed79, hRm80⟩, ⟨n9, hE81, hn9, hs9⟩, ⟨mo9, hG82⟩⟩ := hp75
        replace ei77 := ei77.symm
        subst ei77
        subst er76
        replace fr78 : ∀ q, (¬ q = o + 41 ∧ (q < o + 41 + 5 + 2 * ee ∨ o + 41 + 5 + 2 * ee + 2 ≤ q) ∧ (q < o + 41 + 5 + 2 * ff ∨ o + 41 + 5 + 2 * ff + 2 ≤ q)) → h74 q = h60 q := fun q hq => fr78 q hq.1 hq.2.1 hq.2.2
        have x83 : h74 (o + 41 + 3) = some (.inr (2, [.int pa, .int st9, .int nu, .int en9, .int ca, .ref (o + 41 + 3 + 1)])) := (fr78 _ (by omega)).trans x69
        have x84 : h74 (o + 41 + 3 + 1) = some (.inl (z 1, 3, .inl (cf))) := (fr78 _ (by omega)).trans x70
        have hp_85 : PrC z h74 a _ T := hp_71.kept (fun q _ _ => fr78 q (by omega))
        refine ax_iret hC hr hlocks dX11_enact_101 ?_
        exact ⟨rfl, fun q hq hq2 hq3 hq4 => ((fr78 q (by omega)).trans ((f62 q (by omega)).trans (f3 q (by omega)))), ⟨_, _, _, _, _, hRm80, by rw [hsum]; exact sum3a _ _ _⟩, ⟨n9, 0, es, q9, mo, lf, hE81, hn9, hs9, hq9, hlf, Or.inl rfl⟩, ⟨n2, en2, es2, q2 + 1, mo9, _, hG82, hn2, hst2, by omega, upd_ge hlf2 (x01_ge hx01), hen2⟩, ⟨_, _, _, _, _, _, ⟨x83, x84⟩, fun q9_ => absurd q9_ (by decide)⟩, Or.inr (Or.inr (by decide))⟩
      · exact absurd c59 (by decide)
    · exact absurd c58 (by decide)

set_option maxRecDepth 100000 in
set_option maxHeartbeats 4000000 in
theorem c_X11_enact_2 (l : Launch) (D : va_G) (z : Nat → ClassId) (B : Heap) (lo hi : Nat) (h : Nat → Option va_E) (o : Nat) (on kp : Int32) (sn rr : Nat) (rm st dn wt br gv ed : Int32) (ee a n q9 : Nat) (hld es mo nd9 : Int32) (lf : Nat → Int32) (T : PT) (ff a2 n2 q2 : Nat) (hld2 en2 es2 mo2 : Int32) (lf2 : Nat → Int32) (T2 : PT) (pa st9 nu en9 ca : Int32) (cf : Nat → Int32) (hO : ObS h o on kp) (hRm : RmS z h (o + 41) (nI sn) rm st dn wt br gv ed) (hE : EndS z h (o + 41 + 5 + 2 * ee) hld (some a) (nI n) 0 es (nI q9) mo lf) (hP : PrC z h a nd9 T) (hcap : pcap T ≤ 60) (hn : n < pcap T) (hee : ee < 16) (hG : EndS z h (o + 41 + 5 + 2 * ff) hld2 (some a2) (nI n2) en2 es2 (nI q2) mo2 lf2) (hff : ff < 16) (hne : ¬ ee = ff) (hx : nI ee ^^^ 1 = nI ff) (hq9 : q9 ≤ 4) (hq2 : q2 ≤ 4) (hB : BlmS z h (o + 41 + 3) pa st9 nu en9 ca cf) (hw : wfP T) (hwD : wfD T) (hst : stK (pK T n)) (hkk : pK T n = 2) (hoa : o + 147 ≤ a) (hn2 : n2 < pcap T2) (hst2 : stK (pK T2 n2)) (hlf : ∀ j, j < q9 → 0 ≤ lf j) (hlf2 : ∀ j, j < q2 → 0 ≤ lf2 j) (hen2 : en2 = 0 ∨ en2 = 1) (hsum : st = dn + wt + br) (hrm : rm = nI rr) (hrr : rr ≤ 4) : Met l yX11_enact wsX11_enact rmX11_enact (KP D vwCl B lo hi h (ty6 z) [.ref o, .int hld, .int (nI ee), .int 2, .int 0]) (KQi D vwCl B lo (ty6 z) (EnP z h hi o sn ee ff rm gv hld hld2 a a2 T T2)) 0 0 (fun q => lo ≤ q) := by
  refine ax_met (by decide) rfl (Nat.le_of_ble_eq_true rfl) (L0 := [(0, .ref o), (1, .int hld), (2, .int (nI ee)), (3, .int 2), (4, .int 0)]) rfl ?_
  intro p e s m args below meth c hC hr hlocks hnm hargs
  have iX11 : ∀ w ∈ u_ws RX11 TX11 13, w ∈ wsX11_enact := by decide +kernel
  have iX9 : ∀ w ∈ u_ws RX9 TX9 11, w ∈ wsX11_enact := by decide +kernel
  obtain ⟨hRo, ef, hef, hefi⟩ := id hRm
  subst hrm
  refine ax_aload_n hC 0 dX11_enact_0 rfl rfl ?_
  refine ax_getf (v := .ref (o + 41)) hC hO iX11 rfl 10 (by decide) (by decide +kernel) rfl rfl dX11_enact_1 ?_
  refine ax_dup hC dX11_enact_4 rfl ?_
  refine ax_getf (v := .int st) hC hRo iX9 rfl 5 (by decide) (by decide +kernel) rfl rfl dX11_enact_5 ?_
  refine ax_iconst (v := 1) hC dX11_enact_8 (by decide) ?_
  refine ax_iadd hC dX11_enact_9 ?_
  refine ax_putf (v := .int (st + 1)) (ty := .int) hC tyX9 hRo iX9 tyX9_ok nmX9 rfl 5 (by decide) (by decide +kernel) rfl rfl (by decide +kernel) (rfl) rfl (Nat.le_of_ble_eq_true rfl) dX11_enact_10 (fun h1 e2 f3 => ?_)
  have e2 : h1 (o + 41) = some (.inr (11, [.ref (o + 41 + 1), .ref (o + 41 + 2), .ref (o + 41 + 3), .int (nI sn), .int (nI rr), .int (st + 1), .int dn, .int wt, .int br, .int gv, .int ed])) := e2
  have x4 : h1 o = some (.inr (13, [.ref (o + 1), .ref (o + 2), .int on, .ref (o + 3), .ref (o + 15), .ref (o + 21), .ref (o + 23), .ref (o + 26), .ref (o + 32), .ref (o + 40), .ref (o + 41), .ref (o + 94), .int kp])) := (f3 _ (by omega)).trans hO
  have x5 : h1 (o + 41 + 1) = some (.inl (z 3, 16, .inr (.inr (.inr (.inr (ef)))))) := (f3 _ (by omega)).trans hef
  have x6 : h1 (o + 41 + 5 + 2 * ee) = some (.inr (4, [.int hld, .ref a, .int (nI n), .int 0, .int es, .int (nI q9), .int mo, .ref (o + 41 + 5 + 2 * ee + 1)])) := (f3 _ (by omega)).trans hE.1
  have x7 : h1 (o + 41 + 5 + 2 * ee + 1) = some (.inl (z 1, 4, .inl (lf))) := (f3 _ (by omega)).trans hE.2
  have x8 : h1 (o + 41 + 5 + 2 * ff) = some (.inr (4, [.int hld2, .ref a2, .int (nI n2), .int en2, .int es2, .int (nI q2), .int mo2, .ref (o + 41 + 5 + 2 * ff + 1)])) := (f3 _ (by omega)).trans hG.1
  have x9 : h1 (o + 41 + 5 + 2 * ff + 1) = some (.inl (z 1, 4, .inl (lf2))) := (f3 _ (by omega)).trans hG.2
  have x10 : h1 (o + 41 + 3) = some (.inr (2, [.int pa, .int st9, .int nu, .int en9, .int ca, .ref (o + 41 + 3 + 1)])) := (f3 _ (by omega)).trans hB.1
  have x11 : h1 (o + 41 + 3 + 1) = some (.inl (z 1, 3, .inl (cf))) := (f3 _ (by omega)).trans hB.2
  have hp_12 : PrC z h1 a _ T := hP.kept (fun q _ _ => f3 q (by omega))
  refine ax_aload_n hC 0 dX11_enact_13 rfl rfl ?_
  refine ax_iload_n hC 1 dX11_enact_14 rfl rfl ?_
  refine ax_iload_n hC 2 dX11_enact_15 rfl rfl ?_
  refine ax_iload_n hC 3 dX11_enact_16 rfl rfl ?_
  refine ax_iload hC 4 dX11_enact_17 rfl ?_
  refine ax_callVp (st := []) hC [.int hld, .int (nI ee), .int 2, .int 0] x4 rfl (c_X11_judge_2 l D z B lo _ h1 o on kp sn (nI rr) (st + 1) dn wt br gv ed ee a n q9 hld es mo nd9 lf T ff a2 n2 q2 hld2 en2 es2 mo2 lf2 x4 ⟨e2, ef, x5, hefi⟩ ⟨x6, x7⟩ hp_12 hcap hn hee ⟨x8, x9⟩ hff hne hx hq9 hq2 hw hkk) (cwV 4 hC.1.2.2.2.2 gX11_enact_X11_judge rfl rfl rfl (by decide +kernel) ⟨Nat.le_of_ble_eq_true rfl, Nat.le_of_ble_eq_true rfl⟩) rfl rfl (Nat.le_of_ble_eq_true rfl) dX11_enact_19 ⟨Nat.le_of_ble_eq_true rfl, Nat.le_of_ble_eq_true rfl⟩ (fun r13 er14 => ?_)
  rcases er14 with er14 | er14 | ⟨er14, hwf⟩
  · subst er14
    refine ax_istore hC [(5, .int 3), (0, .ref o), (1, .int hld), (2, .int (nI ee)), (3, .int 2), (4, .int 0)] dX11_enact_22 (by decide) rfl ?_
    refine ax_iload hC 0 dX11_enact_24 rfl ?_
    refine ax_bipush (v := (-4)) hC dX11_enact_26 (by decide) ?_
    refine ax_icmp_ne (tgt := 47) hC dX11_enact_28 (by decide) (fun c15 => ?_) (fun c15 => ?_)
    · refine ax_iload hC 0 dX11_enact_47 rfl ?_
      refine ax_if_eq (tgt := 79) hC dX11_enact_49 (by decide) (fun c16 => ?_) (fun c16 => ?_)
      · exact absurd c16 (by decide)
      · refine ax_aload_n hC 1 dX11_enact_52 rfl rfl ?_
        refine ax_getf (v := .ref (o + 41)) hC x4 iX11 rfl 10 (by decide) (by decide +kernel) rfl rfl dX11_enact_53 ?_
        refine ax_dup hC dX11_enact_56 rfl ?_
        refine ax_getf (v := .int br) hC e2 iX9 rfl 8 (by decide) (by decide +kernel) rfl rfl dX11_enact_57 ?_
        refine ax_iconst (v := 1) hC dX11_enact_60 (by decide) ?_
        refine ax_iadd hC dX11_enact_61 ?_
        refine ax_putf (v := .int (br + 1)) (ty := .int) hC tyX9 e2 iX9 tyX9_ok nmX9 rfl 8 (by decide) (by decide +kernel) rfl rfl (by decide +kernel) (rfl) rfl (Nat.le_of_ble_eq_true rfl) dX11_enact_62 (fun h17 e18 f19 => ?_)
        have e18 : h17 (o + 41) = some (.inr (11, [.ref (o + 41 + 1), .ref (o + 41 + 2), .ref (o + 41 + 3), .int (nI sn), .int (nI rr), .int (st + 1), .int dn, .int wt, .int (br + 1), .int gv, .int ed])) := e18
        have x20 : h17 o = some (.inr (13, [.ref (o + 1), .ref (o + 2), .int on, .ref (o + 3), .ref (o + 15), .ref (o + 21), .ref (o + 23), .ref (o + 26), .ref (o + 32), .ref (o + 40), .ref (o + 41), .ref (o + 94), .int kp])) := (f19 _ (by omega)).trans x4
        have x21 : h17 (o + 41 + 1) = some (.inl (z 3, 16, .inr (.inr (.inr (.inr (ef)))))) := (f19 _ (by omega)).trans x5
        have x22 : h17 (o + 41 + 5 + 2 * ee) = some (.inr (4, [.int hld, .ref a, .int (nI n), .int 0, .int es, .int (nI q9), .int mo, .ref (o + 41 + 5 + 2 * ee + 1)])) := (f19 _ (by omega)).trans x6
        have x23 : h17 (o + 41 + 5 + 2 * ee + 1) = some (.inl (z 1, 4, .inl (lf))) := (f19 _ (by omega)).trans x7
        have x24 : h17 (o + 41 + 5 + 2 * ff) = some (.inr (4, [.int hld2, .ref a2, .int (nI n2), .int en2, .int es2, .int (nI q2), .int mo2, .ref (o + 41 + 5 + 2 * ff + 1)])) := (f19 _ (by omega)).trans x8
        have x25 : h17 (o + 41 + 5 + 2 * ff + 1) = some (.inl (z 1, 4, .inl (lf2))) := (f19 _ (by omega)).trans x9
        have x26 : h17 (o + 41 + 3) = some (.inr (2, [.int pa, .int st9, .int nu, .int en9, .int ca, .ref (o + 41 + 3 + 1)])) := (f19 _ (by omega)).trans x10
        have x27 : h17 (o + 41 + 3 + 1) = some (.inl (z 1, 3, .inl (cf))) := (f19 _ (by omega)).trans x11
        have hp_28 : PrC z h17 a _ T := hp_12.kept (fun q _ _ => f19 q (by omega))
        refine ax_aload_n hC 1 dX11_enact_65 rfl rfl ?_
        refine ax_iload_n hC 2 dX11_enact_66 rfl rfl ?_
        refine ax_iload_n hC 3 dX11_enact_67 rfl rfl ?_
        refine ax_iload_n hC 4 dX11_enact_68 rfl rfl ?_
        refine ax_iload hC 5 dX11_enact_69 rfl ?_
        refine ax_iload hC 0 dX11_enact_71 rfl ?_
        refine ax_callVv (st := []) hC [.int hld, .int (nI ee), .int 2, .int 0, .int 3] x20 rfl (c_X11_accuse_2 l D z B lo _ h17 o on kp sn (nI rr) (st + 1) dn wt (br + 1) gv ed ee a n q9 hld 0 es mo nd9 lf T pa st9 nu en9 ca cf 0 x20 ⟨e18, ef, x21, hefi⟩ ⟨x22, x23⟩ hp_28 hcap hn hee ⟨x26, x27⟩ hkk hoa) (cwV 5 hC.1.2.2.2.2 gX11_enact_X11_accuse rfl rfl rfl (by decide +kernel) ⟨Nat.le_of_ble_eq_true rfl, Nat.le_of_ble_eq_true rfl⟩) rfl rfl (Nat.le_of_ble_eq_true rfl) dX11_enact_73 ⟨Nat.le_of_ble_eq_true rfl, Nat.le_of_ble_eq_true rfl⟩ (fun hi29 h30 hp31 => ?_)
        obtain ⟨ei32, fr33, cf34, hB35, hc36⟩ := hp31
        replace ei32 := ei32.symm
        subst ei32
        have x37 : h30 o = some (.inr (13, [.ref (o + 1), .ref (o + 2), .int on, .ref (o + 3), .ref (o + 15), .ref (o + 21), .ref (o + 23), .ref (o + 26), .ref (o + 32), .ref (o + 40), .ref (o + 41), .ref (o + 94), .int kp])) := (fr33 _ (by omega)).trans x20
        have x38 : h30 (o + 41 + 1) = some (.inl (z 3, 16, .inr (.inr (.inr (.inr (ef)))))) := (fr33 _ (by omega)).trans x21
        have x39 : h30 (o + 41 + 5 + 2 * ee) = some (.inr (4, [.int hld, .ref a, .int (nI n), .int 0, .int es, .int (nI q9), .int mo, .ref (o + 41 + 5 + 2 * ee + 1)])) := (fr33 _ (by omega)).trans x22
        have x40 : h30 (o + 41 + 5 + 2 * ee + 1) = some (.inl (z 1, 4, .inl (lf))) := (fr33 _ (by omega)).trans x23
        have x41 : h30 (o + 41 + 5 + 2 * ff) = some (.inr (4, [.int hld2, .ref a2, .int (nI n2), .int en2, .int es2, .int (nI q2), .int mo2, .ref (o + 41 + 5 + 2 * ff + 1)])) := (fr33 _ (by omega)).trans x24
        have x42 : h30 (o + 41 + 5 + 2 * ff + 1) = some (.inl (z 1, 4, .inl (lf2))) := (fr33 _ (by omega)).trans x25
        have x43 : h30 (o + 41) = some (.inr (11, [.ref (o + 41 + 1), .ref (o + 41 + 2), .ref (o + 41 + 3), .int (nI sn), .int (nI rr), .int (st + 1), .int dn, .int wt, .int (br + 1), .int gv, .int ed])) := (fr33 _ (by omega)).trans e18
        have hp_44 : PrC z h30 a _ T := hp_28.kept (fun q _ _ => fr33 q (by omega))
        refine ax_bipush (v := (-6)) hC dX11_enact_76 (by decide) ?_
        refine ax_iret hC hr hlocks dX11_enact_78 ?_
        exact ⟨rfl, fun q hq hq2 hq3 hq4 => ((fr33 q (by omega)).trans ((f19 q (by omega)).trans (f3 q (by omega)))), ⟨_, _, _, _, _, ⟨x43, ef, x38, hefi⟩, by rw [hsum]; exact sum3c _ _ _⟩, ⟨n, 0, es, q9, mo, lf, ⟨x39, x40⟩, hn, hst, hq9, hlf, Or.inl rfl⟩, ⟨n2, en2, es2, q2, mo2, lf2, ⟨x41, x42⟩, hn2, hst2, hq2, hlf2, hen2⟩, ⟨_, _, _, _, _, _, hB35, fun _ => ⟨rfl, rfl, hc36⟩⟩, Or.inl rfl⟩
    · exact absurd c15 (by decide)
  · subst er14
    refine ax_istore hC [(5, .int (-4)), (0, .ref o), (1, .int hld), (2, .int (nI ee)), (3, .int 2), (4, .int 0)] dX11_enact_22 (by decide) rfl ?_
    refine ax_iload hC 0 dX11_enact_24 rfl ?_
    refine ax_bipush (v := (-4)) hC dX11_enact_26 (by decide) ?_
    refine ax_icmp_ne (tgt := 47) hC dX11_enact_28 (by decide) (fun c45 => ?_) (fun c45 => ?_)
    · exact absurd c45 (by decide)
    · refine ax_aload_n hC 1 dX11_enact_31 rfl rfl ?_
      refine ax_getf (v := .ref (o + 41)) hC x4 iX11 rfl 10 (by decide) (by decide +kernel) rfl rfl dX11_enact_32 ?_
      refine ax_dup hC dX11_enact_35 rfl ?_
      refine ax_getf (v := .int wt) hC e2 iX9 rfl 7 (by decide) (by decide +kernel) rfl rfl dX11_enact_36 ?_
      refine ax_iconst (v := 1) hC dX11_enact_39 (by decide) ?_
      refine ax_iadd hC dX11_enact_40 ?_
      refine ax_putf (v := .int (wt + 1)) (ty := .int) hC tyX9 e2 iX9 tyX9_ok nmX9 rfl 7 (by decide) (by decide +kernel) rfl rfl (by decide +kernel) (rfl) rfl (Nat.le_of_ble_eq_true rfl) dX11_enact_41 (fun h46 e47 f48 => ?_)
      have e47 : h46 (o + 41) = some (.inr (11, [.ref (o + 41 + 1), .ref (o + 41 + 2), .ref (o + 41 + 3), .int (nI sn), .int (nI rr), .int (st + 1), .int dn, .int (wt + 1), .int br, .int gv, .int ed])) := e47
      have x49 : h46 o = some (.inr (13, [.ref (o + 1), .ref (o + 2), .int on, .ref (o + 3), .ref (o + 15), .ref (o + 21), .ref (o + 23), .ref (o + 26), .ref (o + 32), .ref (o + 40), .ref (o + 41), .ref (o + 94), .int kp])) := (f48 _ (by omega)).trans x4
      have x50 : h46 (o + 41 + 1) = some (.inl (z 3, 16, .inr (.inr (.inr (.inr (ef)))))) := (f48 _ (by omega)).trans x5
      have x51 : h46 (o + 41 + 5 + 2 * ee) = some (.inr (4, [.int hld, .ref a, .int (nI n), .int 0, .int es, .int (nI q9), .int mo, .ref (o + 41 + 5 + 2 * ee + 1)])) := (f48 _ (by omega)).trans x6
      have x52 : h46 (o + 41 + 5 + 2 * ee + 1) = some (.inl (z 1, 4, .inl (lf))) := (f48 _ (by omega)).trans x7
      have x53 : h46 (o + 41 + 5 + 2 * ff) = some (.inr (4, [.int hld2, .ref a2, .int (nI n2), .int en2, .int es2, .int (nI q2), .int mo2, .ref (o + 41 + 5 + 2 * ff + 1)])) := (f48 _ (by omega)).trans x8
      have x54 : h46 (o + 41 + 5 + 2 * ff + 1) = some (.inl (z 1, 4, .inl (lf2))) := (f48 _ (by omega)).trans x9
      have x55 : h46 (o + 41 + 3) = some (.inr (2, [.int pa, .int st9, .int nu, .int en9, .int ca, .ref (o + 41 + 3 + 1)])) := (f48 _ (by omega)).trans x10
      have x56 : h46 (o + 41 + 3 + 1) = some (.inl (z 1, 3, .inl (cf))) := (f48 _ (by omega)).trans x11
      have hp_57 : PrC z h46 a _ T := hp_12.kept (fun q _ _ => f48 q (by omega))
      refine ax_bipush (v := (-4)) hC dX11_enact_44 (by decide) ?_
      refine ax_iret hC hr hlocks dX11_enact_46 ?_
      exact ⟨rfl, fun q hq hq2 hq3 hq4 => ((f48 q (by omega)).trans (f3 q (by omega))), ⟨_, _, _, _, _, ⟨e47, ef, x50, hefi⟩, by rw [hsum]; exact sum3b _ _ _⟩, ⟨n, 0, es, q9, mo, lf, ⟨x51, x52⟩, hn, hst, hq9, hlf, Or.inl rfl⟩, ⟨n2, en2, es2, q2, mo2, lf2, ⟨x53, x54⟩, hn2, hst2, hq2, hlf2, hen2⟩, ⟨_, _, _, _, _, _, ⟨x55, x56⟩, fun q9_ => absurd q9_ (by decide)⟩, Or.inr (Or.inl rfl)⟩
  · subst er14
    have hq0 : ¬ q9 = 0 := fun q8 => hwf (by rw [q8]; rfl)
    obtain ⟨q8, rfl⟩ : ∃ q8, q9 = q8 + 1 := ⟨q9 - 1, by omega⟩
    refine ax_istore hC [(5, .int 0), (0, .ref o), (1, .int hld), (2, .int (nI ee)), (3, .int 2), (4, .int 0)] dX11_enact_22 (by decide) rfl ?_
    refine ax_iload hC 0 dX11_enact_24 rfl ?_
    refine ax_bipush (v := (-4)) hC dX11_enact_26 (by decide) ?_
    refine ax_icmp_ne (tgt := 47) hC dX11_enact_28 (by decide) (fun c58 => ?_) (fun c58 => ?_)
    · refine ax_iload hC 0 dX11_enact_47 rfl ?_
      refine ax_if_eq (tgt := 79) hC dX11_enact_49 (by decide) (fun c59 => ?_) (fun c59 => ?_)
      · refine ax_aload_n hC 1 dX11_enact_79 rfl rfl ?_
        refine ax_getf (v := .ref (o + 41)) hC x4 iX11 rfl 10 (by decide) (by decide +kernel) rfl rfl dX11_enact_80 ?_
        refine ax_dup hC dX11_enact_83 rfl ?_
        refine ax_getf (v := .int dn) hC e2 iX9 rfl 6 (by decide) (by decide +kernel) rfl rfl dX11_enact_84 ?_
        refine ax_iconst (v := 1) hC dX11_enact_87 (by decide) ?_
        refine ax_iadd hC dX11_enact_88 ?_
        refine ax_putf (v := .int (dn + 1)) (ty := .int) hC tyX9 e2 iX9 tyX9_ok nmX9 rfl 6 (by decide) (by decide +kernel) rfl rfl (by decide +kernel) (rfl) rfl (Nat.le_of_ble_eq_true rfl) dX11_enact_89 (fun h60 e61 f62 => ?_)
        have e61 : h60 (o + 41) = some (.inr (11, [.ref (o + 41 + 1), .ref (o + 41 + 2), .ref (o + 41 + 3), .int (nI sn), .int (nI rr), .int (st + 1), .int (dn + 1), .int wt, .int br, .int gv, .int ed])) := e61
        have x63 : h60 o = some (.inr (13, [.ref (o + 1), .ref (o + 2), .int on, .ref (o + 3), .ref (o + 15), .ref (o + 21), .ref (o + 23), .ref (o + 26), .ref (o + 32), .ref (o + 40), .ref (o + 41), .ref (o + 94), .int kp])) := (f62 _ (by omega)).trans x4
        have x64 : h60 (o + 41 + 1) = some (.inl (z 3, 16, .inr (.inr (.inr (.inr (ef)))))) := (f62 _ (by omega)).trans x5
        have x65 : h60 (o + 41 + 5 + 2 * ee) = some (.inr (4, [.int hld, .ref a, .int (nI n), .int 0, .int es, .int (nI (q8 + 1)), .int mo, .ref (o + 41 + 5 + 2 * ee + 1)])) := (f62 _ (by omega)).trans x6
        have x66 : h60 (o + 41 + 5 + 2 * ee + 1) = some (.inl (z 1, 4, .inl (lf))) := (f62 _ (by omega)).trans x7
        have x67 : h60 (o + 41 + 5 + 2 * ff) = some (.inr (4, [.int hld2, .ref a2, .int (nI n2), .int en2, .int es2, .int (nI q2), .int mo2, .ref (o + 41 + 5 + 2 * ff + 1)])) := (f62 _ (by omega)).trans x8
        have x68 : h60 (o + 41 + 5 + 2 * ff + 1) = some (.inl (z 1, 4, .inl (lf2))) := (f62 _ (by omega)).trans x9
        have x69 : h60 (o + 41 + 3) = some (.inr (2, [.int pa, .int st9, .int nu, .int en9, .int ca, .ref (o + 41 + 3 + 1)])) := (f62 _ (by omega)).trans x10
        have x70 : h60 (o + 41 + 3 + 1) = some (.inl (z 1, 3, .inl (cf))) := (f62 _ (by omega)).trans x11
        have hp_71 : PrC z h60 a _ T := hp_12.kept (fun q _ _ => f62 q (by omega))
        refine ax_aload_n hC 1 dX11_enact_92 rfl rfl ?_
        refine ax_iload_n hC 2 dX11_enact_93 rfl rfl ?_
        refine ax_iload_n hC 3 dX11_enact_94 rfl rfl ?_
        refine ax_iload_n hC 4 dX11_enact_95 rfl rfl ?_
        refine ax_iload hC 5 dX11_enact_96 rfl ?_
        refine ax_callVi (st := []) hC [.int hld, .int (nI ee), .int 2, .int 0] x63 rfl (c_X11_perform_2 l D z B lo _ h60 o on kp sn (nI rr) (st + 1) (dn + 1) wt br gv ed ee a n q8 hld es mo nd9 lf T ff a2 n2 q2 hld2 en2 es2 mo2 lf2 x63 ⟨e61, ef, x64, hefi⟩ ⟨x65, x66⟩ hp_71 hcap hn hee ⟨x67, x68⟩ hff hne hx (by omega) (by omega) hw hwD hst hkk hoa) (cwV 4 hC.1.2.2.2.2 gX11_enact_X11_perform rfl rfl rfl (by decide +kernel) ⟨Nat.le_of_ble_eq_true rfl, Nat.le_of_ble_eq_true rfl⟩) rfl rfl (Nat.le_of_ble_eq_true rfl) dX11_enact_98 ⟨Nat.le_of_ble_eq_true rfl, Nat.le_of_ble_eq_true rfl⟩ (fun r72 hi73 h74 hp75 => ?_)
        obtain ⟨er76, ei77, fr78, ⟨ed79, hRm80⟩, ⟨n9, lf9, hE81, hn9, hs9, hl9⟩, hG82⟩ := hp75
        replace ei77 := ei77.symm
        subst ei77
        subst er76
        replace fr78 : ∀ q, (¬ q = o + 41 ∧ (q < o + 41 + 5 + 2 * ee ∨ o + 41 + 5 + 2 * ee + 2 ≤ q) ∧ (q < o + 41 + 5 + 2 * ff ∨ o + 41 + 5 + 2 * ff + 2 ≤ q)) → h74 q = h60 q := fun q hq => fr78 q hq.1 hq.2.1 hq.2.2
        have x83 : h74 (o + 41 + 3) = some (.inr (2, [.int pa, .int st9, .int nu, .int en9, .int ca, .ref (o + 41 + 3 + 1)])) := (fr78 _ (by omega)).trans x69
        have x84 : h74 (o + 41 + 3 + 1) = some (.inl (z 1, 3, .inl (cf))) := (fr78 _ (by omega)).trans x70
        have hp_85 : PrC z h74 a _ T := hp_71.kept (fun q _ _ => fr78 q (by omega))
        refine ax_iret hC hr hlocks dX11_enact_101 ?_
        exact ⟨rfl, fun q hq hq2 hq3 hq4 => ((fr78 q (by omega)).trans ((f62 q (by omega)).trans (f3 q (by omega)))), ⟨_, _, _, _, _, hRm80, by rw [hsum]; exact sum3a _ _ _⟩, ⟨n9, 0, es, q8, mo, lf9, hE81, hn9, hs9, by omega, fun j hj => by rw [hl9 j (by omega)]; exact hlf _ (by omega), Or.inl rfl⟩, ⟨n2, en2, es2, q2, mo2, lf2, hG82, hn2, hst2, hq2, hlf2, hen2⟩, ⟨_, _, _, _, _, _, ⟨x83, x84⟩, fun q9_ => absurd (hlf 0 (by omega)) (by rw [q9_]; decide)⟩, Or.inr (Or.inr (hlf 0 (by omega)))⟩
      · exact absurd c59 (by decide)
    · exact absurd c58 (by decide)

set_option maxRecDepth 100000 in
set_option maxHeartbeats 4000000 in
theorem c_X11_enact_3 (l : Launch) (D : va_G) (z : Nat → ClassId) (B : Heap) (lo hi : Nat) (h : Nat → Option va_E) (o : Nat) (on kp : Int32) (sn rr : Nat) (rm st dn wt br gv ed : Int32) (ee a n q9 : Nat) (hld es mo nd9 : Int32) (lf : Nat → Int32) (T : PT) (ff a2 n2 q2 : Nat) (hld2 en2 es2 mo2 : Int32) (lf2 : Nat → Int32) (T2 : PT) (pa st9 nu en9 ca : Int32) (cf : Nat → Int32) (j : Nat) (hO : ObS h o on kp) (hRm : RmS z h (o + 41) (nI sn) rm st dn wt br gv ed) (hE : EndS z h (o + 41 + 5 + 2 * ee) hld (some a) (nI n) 0 es (nI q9) mo lf) (hP : PrC z h a nd9 T) (hcap : pcap T ≤ 60) (hn : n < pcap T) (hee : ee < 16) (hG : EndS z h (o + 41 + 5 + 2 * ff) hld2 (some a2) (nI n2) en2 es2 (nI q2) mo2 lf2) (hff : ff < 16) (hne : ¬ ee = ff) (hx : nI ee ^^^ 1 = nI ff) (hq9 : q9 ≤ 4) (hq2 : q2 ≤ 4) (hB : BlmS z h (o + 41 + 3) pa st9 nu en9 ca cf) (hw : wfP T) (hwD : wfD T) (hst : stK (pK T n)) (hkk : pK T n = 3) (hoa : o + 147 ≤ a) (hn2 : n2 < pcap T2) (hst2 : stK (pK T2 n2)) (hlf : ∀ j, j < q9 → 0 ≤ lf j) (hlf2 : ∀ j, j < q2 → 0 ≤ lf2 j) (hen2 : en2 = 0 ∨ en2 = 1) (hsum : st = dn + wt + br) (hrm : rm = nI rr) (hrr : rr ≤ 4) (hj : j < 26) (hb : ¬ (pLb T n >>> (nI j &&& 31)) &&& 1 = 0) : Met l yX11_enact wsX11_enact rmX11_enact (KP D vwCl B lo hi h (ty6 z) [.ref o, .int hld, .int (nI ee), .int 3, .int (nI (97 + j))]) (KQi D vwCl B lo (ty6 z) (EnP z h hi o sn ee ff rm gv hld hld2 a a2 T T2)) 0 0 (fun q => lo ≤ q) := by
  refine ax_met (by decide) rfl (Nat.le_of_ble_eq_true rfl) (L0 := [(0, .ref o), (1, .int hld), (2, .int (nI ee)), (3, .int 3), (4, .int (nI (97 + j)))]) rfl ?_
  intro p e s m args below meth c hC hr hlocks hnm hargs
  have iX11 : ∀ w ∈ u_ws RX11 TX11 13, w ∈ wsX11_enact := by decide +kernel
  have iX9 : ∀ w ∈ u_ws RX9 TX9 11, w ∈ wsX11_enact := by decide +kernel
  obtain ⟨hRo, ef, hef, hefi⟩ := id hRm
  subst hrm
  refine ax_aload_n hC 0 dX11_enact_0 rfl rfl ?_
  refine ax_getf (v := .ref (o + 41)) hC hO iX11 rfl 10 (by decide) (by decide +kernel) rfl rfl dX11_enact_1 ?_
  refine ax_dup hC dX11_enact_4 rfl ?_
  refine ax_getf (v := .int st) hC hRo iX9 rfl 5 (by decide) (by decide +kernel) rfl rfl dX11_enact_5 ?_
  refine ax_iconst (v := 1) hC dX11_enact_8 (by decide) ?_
  refine ax_iadd hC dX11_enact_9 ?_
  refine ax_putf (v := .int (st + 1)) (ty := .int) hC tyX9 hRo iX9 tyX9_ok nmX9 rfl 5 (by decide) (by decide +kernel) rfl rfl (by decide +kernel) (rfl) rfl (Nat.le_of_ble_eq_true rfl) dX11_enact_10 (fun h1 e2 f3 => ?_)
  have e2 : h1 (o + 41) = some (.inr (11, [.ref (o + 41 + 1), .ref (o + 41 + 2), .ref (o + 41 + 3), .int (nI sn), .int (nI rr), .int (st + 1), .int dn, .int wt, .int br, .int gv, .int ed])) := e2
  have x4 : h1 o = some (.inr (13, [.ref (o + 1), .ref (o + 2), .int on, .ref (o + 3), .ref (o + 15), .ref (o + 21), .ref (o + 23), .ref (o + 26), .ref (o + 32), .ref (o + 40), .ref (o + 41), .ref (o + 94), .int kp])) := (f3 _ (by omega)).trans hO
  have x5 : h1 (o + 41 + 1) = some (.inl (z 3, 16, .inr (.inr (.inr (.inr (ef)))))) := (f3 _ (by omega)).trans hef
  have x6 : h1 (o + 41 + 5 + 2 * ee) = some (.inr (4, [.int hld, .ref a, .int (nI n), .int 0, .int es, .int (nI q9), .int mo, .ref (o + 41 + 5 + 2 * ee + 1)])) := (f3 _ (by omega)).trans hE.1
  have x7 : h1 (o + 41 + 5 + 2 * ee + 1) = some (.inl (z 1, 4, .inl (lf))) := (f3 _ (by omega)).trans hE.2
  have x8 : h1 (o + 41 + 5 + 2 * ff) = some (.inr (4, [.int hld2, .ref a2, .int (nI n2), .int en2, .int es2, .int (nI q2), .int mo2, .ref (o + 41 + 5 + 2 * ff + 1)])) := (f3 _ (by omega)).trans hG.1
  have x9 : h1 (o + 41 + 5 + 2 * ff + 1) = some (.inl (z 1, 4, .inl (lf2))) := (f3 _ (by omega)).trans hG.2
  have x10 : h1 (o + 41 + 3) = some (.inr (2, [.int pa, .int st9, .int nu, .int en9, .int ca, .ref (o + 41 + 3 + 1)])) := (f3 _ (by omega)).trans hB.1
  have x11 : h1 (o + 41 + 3 + 1) = some (.inl (z 1, 3, .inl (cf))) := (f3 _ (by omega)).trans hB.2
  have hp_12 : PrC z h1 a _ T := hP.kept (fun q _ _ => f3 q (by omega))
  refine ax_aload_n hC 0 dX11_enact_13 rfl rfl ?_
  refine ax_iload_n hC 1 dX11_enact_14 rfl rfl ?_
  refine ax_iload_n hC 2 dX11_enact_15 rfl rfl ?_
  refine ax_iload_n hC 3 dX11_enact_16 rfl rfl ?_
  refine ax_iload hC 4 dX11_enact_17 rfl ?_
  refine ax_callVp (st := []) hC [.int hld, .int (nI ee), .int 3, .int (nI (97 + j))] x4 rfl (c_X11_judge_3 l D z B lo _ h1 o on kp sn (nI rr) (st + 1) dn wt br gv ed ee a n q9 hld es mo nd9 lf T ff a2 n2 q2 hld2 en2 es2 mo2 lf2 j x4 ⟨e2, ef, x5, hefi⟩ ⟨x6, x7⟩ hp_12 hcap hn hee ⟨x8, x9⟩ hff hne hx hq9 hq2 hw hkk hj hb) (cwV 4 hC.1.2.2.2.2 gX11_enact_X11_judge rfl rfl rfl (by decide +kernel) ⟨Nat.le_of_ble_eq_true rfl, Nat.le_of_ble_eq_true rfl⟩) rfl rfl (Nat.le_of_ble_eq_true rfl) dX11_enact_19 ⟨Nat.le_of_ble_eq_true rfl, Nat.le_of_ble_eq_true rfl⟩ (fun r13 er14 => ?_)
  rcases er14 with er14 | ⟨er14, hwf⟩
  · subst er14
    refine ax_istore hC [(5, .int (-4)), (0, .ref o), (1, .int hld), (2, .int (nI ee)), (3, .int 3), (4, .int (nI (97 + j)))] dX11_enact_22 (by decide) rfl ?_
    refine ax_iload hC 0 dX11_enact_24 rfl ?_
    refine ax_bipush (v := (-4)) hC dX11_enact_26 (by decide) ?_
    refine ax_icmp_ne (tgt := 47) hC dX11_enact_28 (by decide) (fun c15 => ?_) (fun c15 => ?_)
    · exact absurd c15 (by decide)
    · refine ax_aload_n hC 1 dX11_enact_31 rfl rfl ?_
      refine ax_getf (v := .ref (o + 41)) hC x4 iX11 rfl 10 (by decide) (by decide +kernel) rfl rfl dX11_enact_32 ?_
      refine ax_dup hC dX11_enact_35 rfl ?_
      refine ax_getf (v := .int wt) hC e2 iX9 rfl 7 (by decide) (by decide +kernel) rfl rfl dX11_enact_36 ?_
      refine ax_iconst (v := 1) hC dX11_enact_39 (by decide) ?_
      refine ax_iadd hC dX11_enact_40 ?_
      refine ax_putf (v := .int (wt + 1)) (ty := .int) hC tyX9 e2 iX9 tyX9_ok nmX9 rfl 7 (by decide) (by decide +kernel) rfl rfl (by decide +kernel) (rfl) rfl (Nat.le_of_ble_eq_true rfl) dX11_enact_41 (fun h16 e17 f18 => ?_)
      have e17 : h16 (o + 41) = some (.inr (11, [.ref (o + 41 + 1), .ref (o + 41 + 2), .ref (o + 41 + 3), .int (nI sn), .int (nI rr), .int (st + 1), .int dn, .int (wt + 1), .int br, .int gv, .int ed])) := e17
      have x19 : h16 o = some (.inr (13, [.ref (o + 1), .ref (o + 2), .int on, .ref (o + 3), .ref (o + 15), .ref (o + 21), .ref (o + 23), .ref (o + 26), .ref (o + 32), .ref (o + 40), .ref (o + 41), .ref (o + 94), .int kp])) := (f18 _ (by omega)).trans x4
      have x20 : h16 (o + 41 + 1) = some (.inl (z 3, 16, .inr (.inr (.inr (.inr (ef)))))) := (f18 _ (by omega)).trans x5
      have x21 : h16 (o + 41 + 5 + 2 * ee) = some (.inr (4, [.int hld, .ref a, .int (nI n), .int 0, .int es, .int (nI q9), .int mo, .ref (o + 41 + 5 + 2 * ee + 1)])) := (f18 _ (by omega)).trans x6
      have x22 : h16 (o + 41 + 5 + 2 * ee + 1) = some (.inl (z 1, 4, .inl (lf))) := (f18 _ (by omega)).trans x7
      have x23 : h16 (o + 41 + 5 + 2 * ff) = some (.inr (4, [.int hld2, .ref a2, .int (nI n2), .int en2, .int es2, .int (nI q2), .int mo2, .ref (o + 41 + 5 + 2 * ff + 1)])) := (f18 _ (by omega)).trans x8
      have x24 : h16 (o + 41 + 5 + 2 * ff + 1) = some (.inl (z 1, 4, .inl (lf2))) := (f18 _ (by omega)).trans x9
      have x25 : h16 (o + 41 + 3) = some (.inr (2, [.int pa, .int st9, .int nu, .int en9, .int ca, .ref (o + 41 + 3 + 1)])) := (f18 _ (by omega)).trans x10
      have x26 : h16 (o + 41 + 3 + 1) = some (.inl (z 1, 3, .inl (cf))) := (f18 _ (by omega)).trans x11
      have hp_27 : PrC z h16 a _ T := hp_12.kept (fun q _ _ => f18 q (by omega))
      refine ax_bipush (v := (-4)) hC dX11_enact_44 (by decide) ?_
      refine ax_iret hC hr hlocks dX11_enact_46 ?_
      exact ⟨rfl, fun q hq hq2 hq3 hq4 => ((f18 q (by omega)).trans (f3 q (by omega))), ⟨_, _, _, _, _, ⟨e17, ef, x20, hefi⟩, by rw [hsum]; exact sum3b _ _ _⟩, ⟨n, 0, es, q9, mo, lf, ⟨x21, x22⟩, hn, hst, hq9, hlf, Or.inl rfl⟩, ⟨n2, en2, es2, q2, mo2, lf2, ⟨x23, x24⟩, hn2, hst2, hq2, hlf2, hen2⟩, ⟨_, _, _, _, _, _, ⟨x25, x26⟩, fun q9_ => absurd q9_ (by decide)⟩, Or.inr (Or.inl rfl)⟩
  · subst er14
    have hq24 : q2 < 4 := by have h9 := (nI_ltI (a := q2) (b := rr) (by omega) (by omega)).mp hwf; omega
    refine ax_istore hC [(5, .int 0), (0, .ref o), (1, .int hld), (2, .int (nI ee)), (3, .int 3), (4, .int (nI (97 + j)))] dX11_enact_22 (by decide) rfl ?_
    refine ax_iload hC 0 dX11_enact_24 rfl ?_
    refine ax_bipush (v := (-4)) hC dX11_enact_26 (by decide) ?_
    refine ax_icmp_ne (tgt := 47) hC dX11_enact_28 (by decide) (fun c28 => ?_) (fun c28 => ?_)
    · refine ax_iload hC 0 dX11_enact_47 rfl ?_
      refine ax_if_eq (tgt := 79) hC dX11_enact_49 (by decide) (fun c29 => ?_) (fun c29 => ?_)
      · refine ax_aload_n hC 1 dX11_enact_79 rfl rfl ?_
        refine ax_getf (v := .ref (o + 41)) hC x4 iX11 rfl 10 (by decide) (by decide +kernel) rfl rfl dX11_enact_80 ?_
        refine ax_dup hC dX11_enact_83 rfl ?_
        refine ax_getf (v := .int dn) hC e2 iX9 rfl 6 (by decide) (by decide +kernel) rfl rfl dX11_enact_84 ?_
        refine ax_iconst (v := 1) hC dX11_enact_87 (by decide) ?_
        refine ax_iadd hC dX11_enact_88 ?_
        refine ax_putf (v := .int (dn + 1)) (ty := .int) hC tyX9 e2 iX9 tyX9_ok nmX9 rfl 6 (by decide) (by decide +kernel) rfl rfl (by decide +kernel) (rfl) rfl (Nat.le_of_ble_eq_true rfl) dX11_enact_89 (fun h30 e31 f32 => ?_)
        have e31 : h30 (o + 41) = some (.inr (11, [.ref (o + 41 + 1), .ref (o + 41 + 2), .ref (o + 41 + 3), .int (nI sn), .int (nI rr), .int (st + 1), .int (dn + 1), .int wt, .int br, .int gv, .int ed])) := e31
        have x33 : h30 o = some (.inr (13, [.ref (o + 1), .ref (o + 2), .int on, .ref (o + 3), .ref (o + 15), .ref (o + 21), .ref (o + 23), .ref (o + 26), .ref (o + 32), .ref (o + 40), .ref (o + 41), .ref (o + 94), .int kp])) := (f32 _ (by omega)).trans x4
        have x34 : h30 (o + 41 + 1) = some (.inl (z 3, 16, .inr (.inr (.inr (.inr (ef)))))) := (f32 _ (by omega)).trans x5
        have x35 : h30 (o + 41 + 5 + 2 * ee) = some (.inr (4, [.int hld, .ref a, .int (nI n), .int 0, .int es, .int (nI q9), .int mo, .ref (o + 41 + 5 + 2 * ee + 1)])) := (f32 _ (by omega)).trans x6
        have x36 : h30 (o + 41 + 5 + 2 * ee + 1) = some (.inl (z 1, 4, .inl (lf))) := (f32 _ (by omega)).trans x7
        have x37 : h30 (o + 41 + 5 + 2 * ff) = some (.inr (4, [.int hld2, .ref a2, .int (nI n2), .int en2, .int es2, .int (nI q2), .int mo2, .ref (o + 41 + 5 + 2 * ff + 1)])) := (f32 _ (by omega)).trans x8
        have x38 : h30 (o + 41 + 5 + 2 * ff + 1) = some (.inl (z 1, 4, .inl (lf2))) := (f32 _ (by omega)).trans x9
        have x39 : h30 (o + 41 + 3) = some (.inr (2, [.int pa, .int st9, .int nu, .int en9, .int ca, .ref (o + 41 + 3 + 1)])) := (f32 _ (by omega)).trans x10
        have x40 : h30 (o + 41 + 3 + 1) = some (.inl (z 1, 3, .inl (cf))) := (f32 _ (by omega)).trans x11
        have hp_41 : PrC z h30 a _ T := hp_12.kept (fun q _ _ => f32 q (by omega))
        refine ax_aload_n hC 1 dX11_enact_92 rfl rfl ?_
        refine ax_iload_n hC 2 dX11_enact_93 rfl rfl ?_
        refine ax_iload_n hC 3 dX11_enact_94 rfl rfl ?_
        refine ax_iload_n hC 4 dX11_enact_95 rfl rfl ?_
        refine ax_iload hC 5 dX11_enact_96 rfl ?_
        refine ax_callVi (st := []) hC [.int hld, .int (nI ee), .int 3, .int (nI (97 + j))] x33 rfl (c_X11_perform_3 l D z B lo _ h30 o on kp sn (nI rr) (st + 1) (dn + 1) wt br gv ed ee a n q9 hld es mo nd9 lf T ff a2 n2 q2 hld2 en2 es2 mo2 lf2 (nI (97 + j)) x33 ⟨e31, ef, x34, hefi⟩ ⟨x35, x36⟩ hp_41 hcap hn hee ⟨x37, x38⟩ hff hne hx (by omega) (by omega) hw hwD hst hkk hoa) (cwV 4 hC.1.2.2.2.2 gX11_enact_X11_perform rfl rfl rfl (by decide +kernel) ⟨Nat.le_of_ble_eq_true rfl, Nat.le_of_ble_eq_true rfl⟩) rfl rfl (Nat.le_of_ble_eq_true rfl) dX11_enact_98 ⟨Nat.le_of_ble_eq_true rfl, Nat.le_of_ble_eq_true rfl⟩ (fun r42 hi43 h44 hp45 => ?_)
        obtain ⟨er46, ei47, fr48, ⟨ed49, hRm50⟩, ⟨n9, hE51, hn9, hs9⟩, ⟨mo9, hG52⟩⟩ := hp45
        replace ei47 := ei47.symm
        subst ei47
        subst er46
        replace fr48 : ∀ q, (¬ q = o + 41 ∧ (q < o + 41 + 5 + 2 * ee ∨ o + 41 + 5 + 2 * ee + 2 ≤ q) ∧ (q < o + 41 + 5 + 2 * ff ∨ o + 41 + 5 + 2 * ff + 2 ≤ q)) → h44 q = h30 q := fun q hq => fr48 q hq.1 hq.2.1 hq.2.2
        have x53 : h44 (o + 41 + 3) = some (.inr (2, [.int pa, .int st9, .int nu, .int en9, .int ca, .ref (o + 41 + 3 + 1)])) := (fr48 _ (by omega)).trans x39
        have x54 : h44 (o + 41 + 3 + 1) = some (.inl (z 1, 3, .inl (cf))) := (fr48 _ (by omega)).trans x40
        have hp_55 : PrC z h44 a _ T := hp_41.kept (fun q _ _ => fr48 q (by omega))
        refine ax_iret hC hr hlocks dX11_enact_101 ?_
        exact ⟨rfl, fun q hq hq2 hq3 hq4 => ((fr48 q (by omega)).trans ((f32 q (by omega)).trans (f3 q (by omega)))), ⟨_, _, _, _, _, hRm50, by rw [hsum]; exact sum3a _ _ _⟩, ⟨n9, 0, es, q9, mo, lf, hE51, hn9, hs9, hq9, hlf, Or.inl rfl⟩, ⟨n2, en2, es2, q2 + 1, mo9, _, hG52, hn2, hst2, by omega, upd_ge hlf2 (nI_pos' (by omega)), hen2⟩, ⟨_, _, _, _, _, _, ⟨x53, x54⟩, fun q9_ => absurd q9_ (by decide)⟩, Or.inr (Or.inr (by decide))⟩
      · exact absurd c29 (by decide)
    · exact absurd c28 (by decide)

set_option maxRecDepth 100000 in
set_option maxHeartbeats 4000000 in
theorem c_X11_enact_4 (l : Launch) (D : va_G) (z : Nat → ClassId) (B : Heap) (lo hi : Nat) (h : Nat → Option va_E) (o : Nat) (on kp : Int32) (sn rr : Nat) (rm st dn wt br gv ed : Int32) (ee a n q9 : Nat) (hld es mo nd9 : Int32) (lf : Nat → Int32) (T : PT) (ff a2 n2 q2 : Nat) (hld2 en2 es2 mo2 : Int32) (lf2 : Nat → Int32) (T2 : PT) (pa st9 nu en9 ca : Int32) (cf : Nat → Int32) (hO : ObS h o on kp) (hRm : RmS z h (o + 41) (nI sn) rm st dn wt br gv ed) (hE : EndS z h (o + 41 + 5 + 2 * ee) hld (some a) (nI n) 0 es (nI q9) mo lf) (hP : PrC z h a nd9 T) (hcap : pcap T ≤ 60) (hn : n < pcap T) (hee : ee < 16) (hG : EndS z h (o + 41 + 5 + 2 * ff) hld2 (some a2) (nI n2) en2 es2 (nI q2) mo2 lf2) (hff : ff < 16) (hne : ¬ ee = ff) (hx : nI ee ^^^ 1 = nI ff) (hq9 : q9 ≤ 4) (hq2 : q2 ≤ 4) (hB : BlmS z h (o + 41 + 3) pa st9 nu en9 ca cf) (hw : wfP T) (hwD : wfD T) (hst : stK (pK T n)) (hkk : pK T n = 4) (hoa : o + 147 ≤ a) (hn2 : n2 < pcap T2) (hst2 : stK (pK T2 n2)) (hlf : ∀ j, j < q9 → 0 ≤ lf j) (hlf2 : ∀ j, j < q2 → 0 ≤ lf2 j) (hen2 : en2 = 0 ∨ en2 = 1) (hsum : st = dn + wt + br) (hrm : rm = nI rr) (hrr : rr ≤ 4) : Met l yX11_enact wsX11_enact rmX11_enact (KP D vwCl B lo hi h (ty6 z) [.ref o, .int hld, .int (nI ee), .int 4, .int 0]) (KQi D vwCl B lo (ty6 z) (EnP z h hi o sn ee ff rm gv hld hld2 a a2 T T2)) 0 0 (fun q => lo ≤ q) := by
  refine ax_met (by decide) rfl (Nat.le_of_ble_eq_true rfl) (L0 := [(0, .ref o), (1, .int hld), (2, .int (nI ee)), (3, .int 4), (4, .int 0)]) rfl ?_
  intro p e s m args below meth c hC hr hlocks hnm hargs
  have iX11 : ∀ w ∈ u_ws RX11 TX11 13, w ∈ wsX11_enact := by decide +kernel
  have iX9 : ∀ w ∈ u_ws RX9 TX9 11, w ∈ wsX11_enact := by decide +kernel
  obtain ⟨hRo, ef, hef, hefi⟩ := id hRm
  subst hrm
  refine ax_aload_n hC 0 dX11_enact_0 rfl rfl ?_
  refine ax_getf (v := .ref (o + 41)) hC hO iX11 rfl 10 (by decide) (by decide +kernel) rfl rfl dX11_enact_1 ?_
  refine ax_dup hC dX11_enact_4 rfl ?_
  refine ax_getf (v := .int st) hC hRo iX9 rfl 5 (by decide) (by decide +kernel) rfl rfl dX11_enact_5 ?_
  refine ax_iconst (v := 1) hC dX11_enact_8 (by decide) ?_
  refine ax_iadd hC dX11_enact_9 ?_
  refine ax_putf (v := .int (st + 1)) (ty := .int) hC tyX9 hRo iX9 tyX9_ok nmX9 rfl 5 (by decide) (by decide +kernel) rfl rfl (by decide +kernel) (rfl) rfl (Nat.le_of_ble_eq_true rfl) dX11_enact_10 (fun h1 e2 f3 => ?_)
  have e2 : h1 (o + 41) = some (.inr (11, [.ref (o + 41 + 1), .ref (o + 41 + 2), .ref (o + 41 + 3), .int (nI sn), .int (nI rr), .int (st + 1), .int dn, .int wt, .int br, .int gv, .int ed])) := e2
  have x4 : h1 o = some (.inr (13, [.ref (o + 1), .ref (o + 2), .int on, .ref (o + 3), .ref (o + 15), .ref (o + 21), .ref (o + 23), .ref (o + 26), .ref (o + 32), .ref (o + 40), .ref (o + 41), .ref (o + 94), .int kp])) := (f3 _ (by omega)).trans hO
  have x5 : h1 (o + 41 + 1) = some (.inl (z 3, 16, .inr (.inr (.inr (.inr (ef)))))) := (f3 _ (by omega)).trans hef
  have x6 : h1 (o + 41 + 5 + 2 * ee) = some (.inr (4, [.int hld, .ref a, .int (nI n), .int 0, .int es, .int (nI q9), .int mo, .ref (o + 41 + 5 + 2 * ee + 1)])) := (f3 _ (by omega)).trans hE.1
  have x7 : h1 (o + 41 + 5 + 2 * ee + 1) = some (.inl (z 1, 4, .inl (lf))) := (f3 _ (by omega)).trans hE.2
  have x8 : h1 (o + 41 + 5 + 2 * ff) = some (.inr (4, [.int hld2, .ref a2, .int (nI n2), .int en2, .int es2, .int (nI q2), .int mo2, .ref (o + 41 + 5 + 2 * ff + 1)])) := (f3 _ (by omega)).trans hG.1
  have x9 : h1 (o + 41 + 5 + 2 * ff + 1) = some (.inl (z 1, 4, .inl (lf2))) := (f3 _ (by omega)).trans hG.2
  have x10 : h1 (o + 41 + 3) = some (.inr (2, [.int pa, .int st9, .int nu, .int en9, .int ca, .ref (o + 41 + 3 + 1)])) := (f3 _ (by omega)).trans hB.1
  have x11 : h1 (o + 41 + 3 + 1) = some (.inl (z 1, 3, .inl (cf))) := (f3 _ (by omega)).trans hB.2
  have hp_12 : PrC z h1 a _ T := hP.kept (fun q _ _ => f3 q (by omega))
  refine ax_aload_n hC 0 dX11_enact_13 rfl rfl ?_
  refine ax_iload_n hC 1 dX11_enact_14 rfl rfl ?_
  refine ax_iload_n hC 2 dX11_enact_15 rfl rfl ?_
  refine ax_iload_n hC 3 dX11_enact_16 rfl rfl ?_
  refine ax_iload hC 4 dX11_enact_17 rfl ?_
  refine ax_callVp (st := []) hC [.int hld, .int (nI ee), .int 4, .int 0] x4 rfl (c_X11_judge_4 l D z B lo _ h1 o on kp sn (nI rr) (st + 1) dn wt br gv ed ee a n q9 hld es mo nd9 lf T ff a2 n2 q2 hld2 en2 es2 mo2 lf2 x4 ⟨e2, ef, x5, hefi⟩ ⟨x6, x7⟩ hp_12 hcap hn hee ⟨x8, x9⟩ hff hne hx hq9 hq2 hw hkk) (cwV 4 hC.1.2.2.2.2 gX11_enact_X11_judge rfl rfl rfl (by decide +kernel) ⟨Nat.le_of_ble_eq_true rfl, Nat.le_of_ble_eq_true rfl⟩) rfl rfl (Nat.le_of_ble_eq_true rfl) dX11_enact_19 ⟨Nat.le_of_ble_eq_true rfl, Nat.le_of_ble_eq_true rfl⟩ (fun r13 er14 => ?_)
  rcases er14 with er14 | ⟨er14, hwf⟩
  · subst er14
    refine ax_istore hC [(5, .int (-4)), (0, .ref o), (1, .int hld), (2, .int (nI ee)), (3, .int 4), (4, .int 0)] dX11_enact_22 (by decide) rfl ?_
    refine ax_iload hC 0 dX11_enact_24 rfl ?_
    refine ax_bipush (v := (-4)) hC dX11_enact_26 (by decide) ?_
    refine ax_icmp_ne (tgt := 47) hC dX11_enact_28 (by decide) (fun c15 => ?_) (fun c15 => ?_)
    · exact absurd c15 (by decide)
    · refine ax_aload_n hC 1 dX11_enact_31 rfl rfl ?_
      refine ax_getf (v := .ref (o + 41)) hC x4 iX11 rfl 10 (by decide) (by decide +kernel) rfl rfl dX11_enact_32 ?_
      refine ax_dup hC dX11_enact_35 rfl ?_
      refine ax_getf (v := .int wt) hC e2 iX9 rfl 7 (by decide) (by decide +kernel) rfl rfl dX11_enact_36 ?_
      refine ax_iconst (v := 1) hC dX11_enact_39 (by decide) ?_
      refine ax_iadd hC dX11_enact_40 ?_
      refine ax_putf (v := .int (wt + 1)) (ty := .int) hC tyX9 e2 iX9 tyX9_ok nmX9 rfl 7 (by decide) (by decide +kernel) rfl rfl (by decide +kernel) (rfl) rfl (Nat.le_of_ble_eq_true rfl) dX11_enact_41 (fun h16 e17 f18 => ?_)
      have e17 : h16 (o + 41) = some (.inr (11, [.ref (o + 41 + 1), .ref (o + 41 + 2), .ref (o + 41 + 3), .int (nI sn), .int (nI rr), .int (st + 1), .int dn, .int (wt + 1), .int br, .int gv, .int ed])) := e17
      have x19 : h16 o = some (.inr (13, [.ref (o + 1), .ref (o + 2), .int on, .ref (o + 3), .ref (o + 15), .ref (o + 21), .ref (o + 23), .ref (o + 26), .ref (o + 32), .ref (o + 40), .ref (o + 41), .ref (o + 94), .int kp])) := (f18 _ (by omega)).trans x4
      have x20 : h16 (o + 41 + 1) = some (.inl (z 3, 16, .inr (.inr (.inr (.inr (ef)))))) := (f18 _ (by omega)).trans x5
      have x21 : h16 (o + 41 + 5 + 2 * ee) = some (.inr (4, [.int hld, .ref a, .int (nI n), .int 0, .int es, .int (nI q9), .int mo, .ref (o + 41 + 5 + 2 * ee + 1)])) := (f18 _ (by omega)).trans x6
      have x22 : h16 (o + 41 + 5 + 2 * ee + 1) = some (.inl (z 1, 4, .inl (lf))) := (f18 _ (by omega)).trans x7
      have x23 : h16 (o + 41 + 5 + 2 * ff) = some (.inr (4, [.int hld2, .ref a2, .int (nI n2), .int en2, .int es2, .int (nI q2), .int mo2, .ref (o + 41 + 5 + 2 * ff + 1)])) := (f18 _ (by omega)).trans x8
      have x24 : h16 (o + 41 + 5 + 2 * ff + 1) = some (.inl (z 1, 4, .inl (lf2))) := (f18 _ (by omega)).trans x9
      have x25 : h16 (o + 41 + 3) = some (.inr (2, [.int pa, .int st9, .int nu, .int en9, .int ca, .ref (o + 41 + 3 + 1)])) := (f18 _ (by omega)).trans x10
      have x26 : h16 (o + 41 + 3 + 1) = some (.inl (z 1, 3, .inl (cf))) := (f18 _ (by omega)).trans x11
      have hp_27 : PrC z h16 a _ T := hp_12.kept (fun q _ _ => f18 q (by omega))
      refine ax_bipush (v := (-4)) hC dX11_enact_44 (by decide) ?_
      refine ax_iret hC hr hlocks dX11_enact_46 ?_
      exact ⟨rfl, fun q hq hq2 hq3 hq4 => ((f18 q (by omega)).trans (f3 q (by omega))), ⟨_, _, _, _, _, ⟨e17, ef, x20, hefi⟩, by rw [hsum]; exact sum3b _ _ _⟩, ⟨n, 0, es, q9, mo, lf, ⟨x21, x22⟩, hn, hst, hq9, hlf, Or.inl rfl⟩, ⟨n2, en2, es2, q2, mo2, lf2, ⟨x23, x24⟩, hn2, hst2, hq2, hlf2, hen2⟩, ⟨_, _, _, _, _, _, ⟨x25, x26⟩, fun q9_ => absurd q9_ (by decide)⟩, Or.inr (Or.inl rfl)⟩
  · subst er14
    have hq0 : ¬ q9 = 0 := fun q8 => hwf (by rw [q8]; rfl)
    obtain ⟨q8, rfl⟩ : ∃ q8, q9 = q8 + 1 := ⟨q9 - 1, by omega⟩
    refine ax_istore hC [(5, .int 0), (0, .ref o), (1, .int hld), (2, .int (nI ee)), (3, .int 4), (4, .int 0)] dX11_enact_22 (by decide) rfl ?_
    refine ax_iload hC 0 dX11_enact_24 rfl ?_
    refine ax_bipush (v := (-4)) hC dX11_enact_26 (by decide) ?_
    refine ax_icmp_ne (tgt := 47) hC dX11_enact_28 (by decide) (fun c28 => ?_) (fun c28 => ?_)
    · refine ax_iload hC 0 dX11_enact_47 rfl ?_
      refine ax_if_eq (tgt := 79) hC dX11_enact_49 (by decide) (fun c29 => ?_) (fun c29 => ?_)
      · refine ax_aload_n hC 1 dX11_enact_79 rfl rfl ?_
        refine ax_getf (v := .ref (o + 41)) hC x4 iX11 rfl 10 (by decide) (by decide +kernel) rfl rfl dX11_enact_80 ?_
        refine ax_dup hC dX11_enact_83 rfl ?_
        refine ax_getf (v := .int dn) hC e2 iX9 rfl 6 (by decide) (by decide +kernel) rfl rfl dX11_enact_84 ?_
        refine ax_iconst (v := 1) hC dX11_enact_87 (by decide) ?_
        refine ax_iadd hC dX11_enact_88 ?_
        refine ax_putf (v := .int (dn + 1)) (ty := .int) hC tyX9 e2 iX9 tyX9_ok nmX9 rfl 6 (by decide) (by decide +kernel) rfl rfl (by decide +kernel) (rfl) rfl (Nat.le_of_ble_eq_true rfl) dX11_enact_89 (fun h30 e31 f32 => ?_)
        have e31 : h30 (o + 41) = some (.inr (11, [.ref (o + 41 + 1), .ref (o + 41 + 2), .ref (o + 41 + 3), .int (nI sn), .int (nI rr), .int (st + 1), .int (dn + 1), .int wt, .int br, .int gv, .int ed])) := e31
        have x33 : h30 o = some (.inr (13, [.ref (o + 1), .ref (o + 2), .int on, .ref (o + 3), .ref (o + 15), .ref (o + 21), .ref (o + 23), .ref (o + 26), .ref (o + 32), .ref (o + 40), .ref (o + 41), .ref (o + 94), .int kp])) := (f32 _ (by omega)).trans x4
        have x34 : h30 (o + 41 + 1) = some (.inl (z 3, 16, .inr (.inr (.inr (.inr (ef)))))) := (f32 _ (by omega)).trans x5
        have x35 : h30 (o + 41 + 5 + 2 * ee) = some (.inr (4, [.int hld, .ref a, .int (nI n), .int 0, .int es, .int (nI (q8 + 1)), .int mo, .ref (o + 41 + 5 + 2 * ee + 1)])) := (f32 _ (by omega)).trans x6
        have x36 : h30 (o + 41 + 5 + 2 * ee + 1) = some (.inl (z 1, 4, .inl (lf))) := (f32 _ (by omega)).trans x7
        have x37 : h30 (o + 41 + 5 + 2 * ff) = some (.inr (4, [.int hld2, .ref a2, .int (nI n2), .int en2, .int es2, .int (nI q2), .int mo2, .ref (o + 41 + 5 + 2 * ff + 1)])) := (f32 _ (by omega)).trans x8
        have x38 : h30 (o + 41 + 5 + 2 * ff + 1) = some (.inl (z 1, 4, .inl (lf2))) := (f32 _ (by omega)).trans x9
        have x39 : h30 (o + 41 + 3) = some (.inr (2, [.int pa, .int st9, .int nu, .int en9, .int ca, .ref (o + 41 + 3 + 1)])) := (f32 _ (by omega)).trans x10
        have x40 : h30 (o + 41 + 3 + 1) = some (.inl (z 1, 3, .inl (cf))) := (f32 _ (by omega)).trans x11
        have hp_41 : PrC z h30 a _ T := hp_12.kept (fun q _ _ => f32 q (by omega))
        refine ax_aload_n hC 1 dX11_enact_92 rfl rfl ?_
        refine ax_iload_n hC 2 dX11_enact_93 rfl rfl ?_
        refine ax_iload_n hC 3 dX11_enact_94 rfl rfl ?_
        refine ax_iload_n hC 4 dX11_enact_95 rfl rfl ?_
        refine ax_iload hC 5 dX11_enact_96 rfl ?_
        refine ax_callVi (st := []) hC [.int hld, .int (nI ee), .int 4, .int 0] x33 rfl (c_X11_perform_4 l D z B lo _ h30 o on kp sn (nI rr) (st + 1) (dn + 1) wt br gv ed ee a n q8 hld es mo nd9 lf T ff a2 n2 q2 hld2 en2 es2 mo2 lf2 x33 ⟨e31, ef, x34, hefi⟩ ⟨x35, x36⟩ hp_41 hcap hn hee ⟨x37, x38⟩ hff hne hx (by omega) (by omega) hw hwD hst hkk hoa) (cwV 4 hC.1.2.2.2.2 gX11_enact_X11_perform rfl rfl rfl (by decide +kernel) ⟨Nat.le_of_ble_eq_true rfl, Nat.le_of_ble_eq_true rfl⟩) rfl rfl (Nat.le_of_ble_eq_true rfl) dX11_enact_98 ⟨Nat.le_of_ble_eq_true rfl, Nat.le_of_ble_eq_true rfl⟩ (fun r42 hi43 h44 hp45 => ?_)
        obtain ⟨er46, ei47, fr48, ⟨ed49, hRm50⟩, ⟨n9, lf9, hE51, hn9, hs9, hl9⟩, hG52⟩ := hp45
        replace ei47 := ei47.symm
        subst ei47
        subst er46
        replace fr48 : ∀ q, (¬ q = o + 41 ∧ (q < o + 41 + 5 + 2 * ee ∨ o + 41 + 5 + 2 * ee + 2 ≤ q) ∧ (q < o + 41 + 5 + 2 * ff ∨ o + 41 + 5 + 2 * ff + 2 ≤ q)) → h44 q = h30 q := fun q hq => fr48 q hq.1 hq.2.1 hq.2.2
        have x53 : h44 (o + 41 + 3) = some (.inr (2, [.int pa, .int st9, .int nu, .int en9, .int ca, .ref (o + 41 + 3 + 1)])) := (fr48 _ (by omega)).trans x39
        have x54 : h44 (o + 41 + 3 + 1) = some (.inl (z 1, 3, .inl (cf))) := (fr48 _ (by omega)).trans x40
        have hp_55 : PrC z h44 a _ T := hp_41.kept (fun q _ _ => fr48 q (by omega))
        refine ax_iret hC hr hlocks dX11_enact_101 ?_
        exact ⟨rfl, fun q hq hq2 hq3 hq4 => ((fr48 q (by omega)).trans ((f32 q (by omega)).trans (f3 q (by omega)))), ⟨_, _, _, _, _, hRm50, by rw [hsum]; exact sum3a _ _ _⟩, ⟨n9, 0, es, q8, mo, lf9, hE51, hn9, hs9, by omega, fun j hj => by rw [hl9 j (by omega)]; exact hlf _ (by omega), Or.inl rfl⟩, ⟨n2, en2, es2, q2, mo2, lf2, hG52, hn2, hst2, hq2, hlf2, hen2⟩, ⟨_, _, _, _, _, _, ⟨x53, x54⟩, fun q9_ => absurd (hlf 0 (by omega)) (by rw [q9_]; decide)⟩, Or.inr (Or.inr (hlf 0 (by omega)))⟩
      · exact absurd c29 (by decide)
    · exact absurd c28 (by decide)
