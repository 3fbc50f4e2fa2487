/-- the one and the other, by the side-/
def sel (s : Nat) (P Q : PT) : PT := if s = 0 then P else Q
def FitR (P Q : PT) (R : Nat → Prop) : Prop := ∀ s u v, s < 2 → u < pcap (sel s P Q) → v < pcap (sel s Q P) → R (cod s u v) → okp (sel s P Q) (sel s Q P) u v ∧ ∀ c ∈ sucL (sel s P Q) (sel s Q P) s u v, R c
/-- P FITS Q, from the STATES x, y on-/
def Fit (P Q : PT) (x y : Nat) : Prop := ∃ R : Nat → Prop, R (cod 0 x y) ∧ FitR P Q R
def Vc (P Q : PT) (c : Nat) : Prop := ∃ s u v, c = cod s u v ∧ s < 2 ∧ u < pcap (sel s P Q) ∧ v < pcap (sel s Q P)
theorem cod_lt {P Q : PT} (hP : wfP P) (hQ : wfP Q) {c : Nat} (h : Vc P Q c) : c < 7200 := by
  obtain ⟨s, u, v, rfl, hs, hu, hv⟩ := h
  have h1 : pcap (sel s P Q) ≤ 60 := by unfold sel; split; exact hP.1; exact hQ.1
  have h2 : pcap (sel s Q P) ≤ 60 := by unfold sel; split; exact hQ.1; exact hP.1
  unfold cod; omega
theorem suc_Vc {P Q : PT} (hP : wfP P) (hQ : wfP Q) {s u v : Nat} (hs : s < 2) {c : Nat} (hc : c ∈ sucL (sel s P Q) (sel s Q P) s u v) : Vc P Q c := by
  have w1 : wfP (sel s P Q) := by unfold sel; split; exact hP; exact hQ
  have w2 : wfP (sel s Q P) := by unfold sel; split; exact hQ; exact hP
  have e1 : sel (1 - s) P Q = sel s Q P := by rcases (show s = 0 ∨ s = 1 by omega) with rfl | rfl <;> rfl
  have e2 : sel (1 - s) Q P = sel s P Q := by rcases (show s = 0 ∨ s = 1 by omega) with rfl | rfl <;> rfl
  unfold sucL at hc
  split at hc
  · simp at hc
  · rcases List.mem_append.mp hc with hc | hc
    · split at hc
      · split at hc
        · simp at hc; subst hc
          exact ⟨1 - s, _, _, rfl, by omega, by rw [e1]; exact (sN_eq w2 _).2, by rw [e2]; exact (sN_eq w1 _).2⟩
        · simp at hc; subst hc
          exact ⟨s, _, _, rfl, hs, (sN_eq w1 _).2, (sN_eq w2 _).2⟩
      · simp at hc
    · split at hc
      · simp at hc; subst hc
        exact ⟨s, _, _, rfl, hs, (stp_eq w1 _ _).2, (stp_eq w2 _ _).2⟩
      · obtain ⟨j, -, rfl⟩ := List.mem_map.mp hc
        exact ⟨s, _, _, rfl, hs, (stp_eq w1 _ _).2, (stp_eq w2 _ _).2⟩
theorem cod_dec (s u v : Nat) (hu : u < 60) (hv : v < 60) : cod s u v / 3600 = s ∧ cod s u v / 60 % 60 = u ∧ cod s u v % 60 = v := by
  unfold cod
  refine ⟨?_, ?_, ?_⟩ <;> omega
/-- what holds of the row of pairs as it is gone through: k of them have been looked at-/
def HI_ (P Q : PT) (x y k : Nat) (Ls : List Nat) : Prop := cod 0 x y ∈ Ls ∧ (∀ c ∈ Ls, Vc P Q c) ∧ (∀ R : Nat → Prop, R (cod 0 x y) → FitR P Q R → ∀ c ∈ Ls, R c) ∧ (∀ j c, j < k → Ls[j]? = some c → ∀ s u v, c = cod s u v → s < 2 → u < 60 → v < 60 → okp (sel s P Q) (sel s Q P) u v ∧ ∀ d ∈ sucL (sel s P Q) (sel s Q P) s u v, d ∈ Ls)
theorem HI_fit {P Q : PT} {x y : Nat} {Ls : List Nat} (hP : wfP P) (hQ : wfP Q) {k : Nat} (h : HI_ P Q x y k Ls) (hk : Ls.length ≤ k) : Fit P Q x y := by
  refine ⟨fun c => c ∈ Ls, h.1, fun s u v hs hu hv hc => ?_⟩
  obtain ⟨j, hj⟩ := List.getElem?_of_mem hc
  have hjl := (List.getElem?_eq_some_iff.mp hj).1
  have h1 : pcap (sel s P Q) ≤ 60 := by unfold sel; split; exact hP.1; exact hQ.1
  have h2 : pcap (sel s Q P) ≤ 60 := by unfold sel; split; exact hQ.1; exact hP.1
  exact h.2.2.2 j _ (by omega) hj s u v rfl hs (by omega) (by omega)
theorem HI_step {P Q : PT} {x y k : Nat} {Ls : List Nat} (hP : wfP P) (hQ : wfP Q) (h : HI_ P Q x y k Ls) {s u v : Nat} (hk : Ls[k]? = some (cod s u v)) (hs : s < 2) (hu : u < pcap (sel s P Q)) (hv : v < pcap (sel s Q P)) (hok : okp (sel s P Q) (sel s Q P) u v) : HI_ P Q x y (k + 1) (lext Ls (sucL (sel s P Q) (sel s Q P) s u v)) := by
  obtain ⟨a, b, c, d⟩ := h
  have h1 : pcap (sel s P Q) ≤ 60 := by unfold sel; split; exact hP.1; exact hQ.1
  have h2 : pcap (sel s Q P) ≤ 60 := by unfold sel; split; exact hQ.1; exact hP.1
  refine ⟨mem_lext.mpr (Or.inl a), fun e he => ?_, fun R r0 hR e he => ?_, fun j e hj he s' u' v' e1 hs' hu' hv' => ?_⟩
  · rcases mem_lext.mp he with q | q
    · exact b e q
    · exact suc_Vc hP hQ hs q
  · rcases mem_lext.mp he with q | q
    · exact c R r0 hR e q
    · exact (hR s u v hs hu hv (c R r0 hR _ (List.mem_of_getElem? hk))).2 e q
  · have hkl := (List.getElem?_eq_some_iff.mp hk).1
    have he' : Ls[j]? = some e := by
      obtain ⟨t, ht⟩ := pre_lext Ls (sucL (sel s P Q) (sel s Q P) s u v)
      rw [← ht, List.getElem?_append_left (by omega)] at he
      exact he
    by_cases hjk : j < k
    · obtain ⟨g1, g2⟩ := d j e hjk he' s' u' v' e1 hs' hu' hv'
      exact ⟨g1, fun w hw => mem_lext.mpr (Or.inl (g2 w hw))⟩
    · have : j = k := by omega
      subst this
      rw [hk] at he'
      have e2 : cod s u v = cod s' u' v' := by rw [← e1]; exact Option.some.inj he'
      have q1 := cod_dec s u v (by omega) (by omega)
      have q2 := cod_dec s' u' v' hu' hv'
      rw [e2] at q1
      obtain rfl : s = s' := by omega
      obtain rfl : u = u' := by omega
      obtain rfl : v = v' := by omega
      exact ⟨hok, fun w hw => mem_lext.mpr (Or.inr hw)⟩
def CmpS (z : Nat → ClassId) (h : Nat → Option va_E) (cm : Nat) : Prop := ∃ (fnd : Int32) (seen : Nat → Int64) (pairs : Nat → Int32), h cm = some (.inr (3, [.ref (cm + 1), .ref (cm + 2), .int fnd])) ∧ h (cm + 1) = some (.inl (z 2, 120, .inr (.inl seen))) ∧ h (cm + 2) = some (.inl (z 1, 7200, .inl pairs))
theorem CmpL.S {z : Nat → ClassId} {h : Nat → Option va_E} {cm : Nat} {Ls : List Nat} (q : CmpL z h cm Ls) : CmpS z h cm := by
  obtain ⟨a, b, c1, c2, c3, -⟩ := q
  exact ⟨_, a, b, c1, c2, c3⟩

abbrev rmX1_holds : Room := { frames := 2, cells := 0, slots := 0, locals := 58 }
set_option maxRecDepth 100000 in
set_option maxHeartbeats 4000000 in
theorem c_X1_holds (l : Launch) (D : va_G) (z : Nat → ClassId) (B : Heap) (lo hi : Nat) (h : Nat → Option va_E) (cm aF aG x y : Nat) (ndF ndG : Int32) (TF TG : PT) (hS : CmpS z h cm) (hF : PrC z h aF ndF TF) (hG : PrC z h aG ndG TG) (hwF : wfP TF) (hwG : wfP TG) (hx : x < pcap TF) (hy : y < pcap TG) (hdF : cm + 3 ≤ aF) (hdG : cm + 3 ≤ aG) : Met l yX1_holds wsX1_holds rmX1_holds (KP D vwCl B lo hi h (ty6 z) [.ref cm, .ref aF, .int (nI x), .ref aG, .int (nI y), .int 0]) (KQi D vwCl B lo (ty6 z) (fun r hi' h' => hi' = hi ∧ (∀ q, (q < cm ∨ cm + 3 ≤ q) → h' q = h q) ∧ CmpS z h' cm ∧ ((r = 1 ∧ Fit TF TG x y) ∨ (r = 0 ∧ ¬ Fit TF TG x y)))) 0 0 (fun q => lo ≤ q) := by
  obtain ⟨fnd, seen, pairs, q1, q2, q3⟩ := hS
  have hwF1 := hwF.1
  have hwG1 := hwG.1
  refine ax_met (by decide) rfl (Nat.le_of_ble_eq_true rfl) (L0 := [(0, .ref cm), (1, .ref aF), (2, .int (nI x)), (3, .ref aG), (4, .int (nI y)), (5, .int 0)]) rfl ?_
  intro p e s m args below meth c hC hr hlocks hnm hargs
  have iX1 : ∀ w ∈ u_ws RX1 TX1 3, w ∈ wsX1_holds := by decide +kernel
  have LP : ∀ (n k : Nat) (hX : Nat → Option va_E) (Ls : List Nat), k + n = 7200 → k ≤ Ls.length → (∀ q, (q < cm ∨ cm + 3 ≤ q) → hX q = h q) → CmpL z hX cm Ls → HI_ TF TG x y k Ls → Gx p l e rmX1_holds s m args below meth c D vwCl B lo 12 (MQ below (KQi D vwCl B lo (ty6 z) (fun r hi' h' => hi' = hi ∧ (∀ q, (q < cm ∨ cm + 3 ≤ q) → h' q = h q) ∧ CmpS z h' cm ∧ ((r = 1 ∧ Fit TF TG x y) ∨ (r = 0 ∧ ¬ Fit TF TG x y)))) args s 0 0 (fun q => lo ≤ q)) hi hX 0 0 [(6, .int (nI k)), (5, .int 0), (4, .int (nI y)), (3, .ref aG), (2, .int (nI x)), (1, .ref aF), (0, .ref cm)] 24 [] := by
    intro n
    induction n with
    | zero =>
      intro k hX Ls hkn hkl hfr hLX hI
      have hFX : PrC z hX aF _ TF := hF.kept (fun q _ _ => hfr q (by omega))
      have hGX : PrC z hX aG _ TG := hG.kept (fun q _ _ => hfr q (by omega))
      have hLX2 := hLX
      obtain ⟨seenX, pairsX, o1, o2, o3, hnd, hlt, hpr, hbit⟩ := hLX
      have hlen : Ls.length ≤ 7200 := nodup_len _ _ hnd hlt
      refine ax_iload hC 0 dX1_holds_24 rfl ?_
      refine ax_aload_n hC 6 dX1_holds_26 rfl rfl ?_
      refine ax_getf (v := .int (nI Ls.length)) hC o1 iX1 rfl 2 (by decide) (by decide +kernel) rfl rfl dX1_holds_27 ?_
      refine ax_icmp_ge (tgt := 134) hC dX1_holds_30 (by decide) (fun c1001 => ?_) (fun c1001 => ?_)
      · refine ax_iconst (v := 1) hC dX1_holds_134 (by decide) ?_
        refine ax_zret hC hr hlocks dX1_holds_135 (by decide) ?_
        exact ⟨rfl, hfr, hLX2.S, Or.inl ⟨rfl, HI_fit hwF hwG hI (by omega)⟩⟩
      · exact absurd (nI_le (by omega) (by omega)) c1001
    | succ n ih =>
      intro k hX Ls hkn hkl hfr hLX hI
      have hFX : PrC z hX aF _ TF := hF.kept (fun q _ _ => hfr q (by omega))
      have hGX : PrC z hX aG _ TG := hG.kept (fun q _ _ => hfr q (by omega))
      have hLX2 := hLX
      obtain ⟨seenX, pairsX, o1, o2, o3, hnd, hlt, hpr, hbit⟩ := hLX
      have hlen : Ls.length ≤ 7200 := nodup_len _ _ hnd hlt
      by_cases hkk : Ls.length ≤ k
      · refine ax_iload hC 0 dX1_holds_24 rfl ?_
        refine ax_aload_n hC 6 dX1_holds_26 rfl rfl ?_
        refine ax_getf (v := .int (nI Ls.length)) hC o1 iX1 rfl 2 (by decide) (by decide +kernel) rfl rfl dX1_holds_27 ?_
        refine ax_icmp_ge (tgt := 134) hC dX1_holds_30 (by decide) (fun c2001 => ?_) (fun c2001 => ?_)
        · refine ax_iconst (v := 1) hC dX1_holds_134 (by decide) ?_
          refine ax_zret hC hr hlocks dX1_holds_135 (by decide) ?_
          exact ⟨rfl, hfr, hLX2.S, Or.inl ⟨rfl, HI_fit hwF hwG hI (by omega)⟩⟩
        · exact absurd (nI_le (by omega) (by omega)) c2001
      · obtain ⟨cc0, hk⟩ : ∃ cc0, Ls[k]? = some cc0 := ⟨_, List.getElem?_eq_getElem (by omega)⟩
        obtain ⟨sd, u, v, rfl, hs, hu0, hv0⟩ := hI.2.1 cc0 (List.mem_of_getElem? hk)
        have hpk := hpr k _ hk
        rcases (show sd = 0 ∨ sd = 1 by omega) with rfl | rfl
        · have hu1 : u < pcap TF := hu0
          have hv1 : v < pcap TG := hv0
          have hwF1 := hwF.1
          have hwG1 := hwG.1
          have hdc := cod_dec 0 u v (by omega) (by omega)
          have hc31 : cod 0 u v < 2 ^ 31 := by unfold cod; omega
          refine ax_iload hC 0 dX1_holds_24 rfl ?_
          refine ax_aload_n hC 6 dX1_holds_26 rfl rfl ?_
          refine ax_getf (v := .int (nI Ls.length)) hC o1 iX1 rfl 2 (by decide) (by decide +kernel) rfl rfl dX1_holds_27 ?_
          refine ax_icmp_ge (tgt := 134) hC dX1_holds_30 (by decide) (fun c2002 => ?_) (fun c2002 => ?_)
          · exact absurd c2002 (nI_ge (by omega) (by omega))
          · refine ax_iload hC 0 dX1_holds_33 rfl ?_
            refine ax_aload_n hC 6 dX1_holds_35 rfl rfl ?_
            refine ax_getf (v := .ref (cm + 2)) hC o1 iX1 rfl 1 (by decide) (by decide +kernel) rfl rfl dX1_holds_36 ?_
            refine ax_alen (v := 7200) hC o3 1 rfl rfl dX1_holds_39 ?_
            refine ax_icmp_ge (tgt := 134) hC dX1_holds_40 (by decide) (fun c2003 => ?_) (fun c2003 => ?_)
            · exact absurd c2003 (fun q => by have q2 := (L_leN (k := 7200) (by decide) (by omega)).mp q; omega)
            · refine ax_aload_n hC 6 dX1_holds_43 rfl rfl ?_
              refine ax_getf (v := .ref (cm + 2)) hC o1 iX1 rfl 1 (by decide) (by decide +kernel) rfl rfl dX1_holds_44 ?_
              refine ax_iload hC 0 dX1_holds_47 rfl ?_
              have b2004 : vp_in (nI k) 7200 := vp_in_nI (by omega) (by omega)
              refine ax_iald hC o3 1 rfl b2004 dX1_holds_49 ?_
              refine ax_eqi (y := pairsX k) (by rw [nI_clamp (by omega)]) ?_
              refine ax_eqi (y := nI (cod 0 u v)) (hpk) ?_
              refine ax_sipush (v := 3600) hC dX1_holds_50 (by decide) ?_
              refine ax_idiv hC dX1_holds_53 (by decide) ?_
              refine ax_eqi (y := 0) ((pk_div (a := cod 0 u v) (d := 3600) hc31 (by decide) (by decide)).trans (by rw [hdc.1]; rfl)) ?_
              refine ax_istore hC [(7, .int 0), (6, .int (nI k)), (5, .int 0), (4, .int (nI y)), (3, .ref aG), (2, .int (nI x)), (1, .ref aF), (0, .ref cm)] dX1_holds_54 (by decide) rfl ?_
              refine ax_aload_n hC 7 dX1_holds_56 rfl rfl ?_
              refine ax_getf (v := .ref (cm + 2)) hC o1 iX1 rfl 1 (by decide) (by decide +kernel) rfl rfl dX1_holds_57 ?_
              refine ax_iload hC 1 dX1_holds_60 rfl ?_
              have b2005 : vp_in (nI k) 7200 := vp_in_nI (by omega) (by omega)
              refine ax_iald hC o3 1 rfl b2005 dX1_holds_62 ?_
              refine ax_eqi (y := pairsX k) (by rw [nI_clamp (by omega)]) ?_
              refine ax_eqi (y := nI (cod 0 u v)) (hpk) ?_
              refine ax_bipush (v := 60) hC dX1_holds_63 (by decide) ?_
              refine ax_idiv hC dX1_holds_65 (by decide) ?_
              refine ax_eqi (y := nI (cod 0 u v / 60)) (pk_div (d := 60) hc31 (by decide) (by decide)) ?_
              refine ax_bipush (v := 60) hC dX1_holds_66 (by decide) ?_
              refine ax_irem hC dX1_holds_68 (by decide) ?_
              refine ax_eqi (y := nI u) ((pk_rem (d := 60) (by omega) (by decide) (by decide)).trans (by rw [hdc.2.1])) ?_
              refine ax_istore hC [(8, .int (nI u)), (7, .int 0), (6, .int (nI k)), (5, .int 0), (4, .int (nI y)), (3, .ref aG), (2, .int (nI x)), (1, .ref aF), (0, .ref cm)] dX1_holds_69 (by decide) rfl ?_
              refine ax_aload_n hC 8 dX1_holds_71 rfl rfl ?_
              refine ax_getf (v := .ref (cm + 2)) hC o1 iX1 rfl 1 (by decide) (by decide +kernel) rfl rfl dX1_holds_72 ?_
              refine ax_iload hC 2 dX1_holds_75 rfl ?_
              have b2006 : vp_in (nI k) 7200 := vp_in_nI (by omega) (by omega)
              refine ax_iald hC o3 1 rfl b2006 dX1_holds_77 ?_
              refine ax_eqi (y := pairsX k) (by rw [nI_clamp (by omega)]) ?_
              refine ax_eqi (y := nI (cod 0 u v)) (hpk) ?_
              refine ax_bipush (v := 60) hC dX1_holds_78 (by decide) ?_
              refine ax_irem hC dX1_holds_80 (by decide) ?_
              refine ax_eqi (y := nI v) ((pk_rem (d := 60) hc31 (by decide) (by decide)).trans (by rw [hdc.2.2])) ?_
              refine ax_istore hC [(9, .int (nI v)), (8, .int (nI u)), (7, .int 0), (6, .int (nI k)), (5, .int 0), (4, .int (nI y)), (3, .ref aG), (2, .int (nI x)), (1, .ref aF), (0, .ref cm)] dX1_holds_81 (by decide) rfl ?_
              refine ax_iload hC 2 dX1_holds_83 rfl ?_
              refine ax_if_ne (tgt := 92) hC dX1_holds_85 (by decide) (fun c2007 => ?_) (fun c2007 => ?_)
              · exact absurd c2007 (by decide)
              · refine ax_aload_n hC 8 dX1_holds_88 rfl rfl ?_
                refine ax_goto (tgt := 93) hC dX1_holds_89 (by decide) ?_
                refine ax_astore hC [(10, .ref aF), (9, .int (nI v)), (8, .int (nI u)), (7, .int 0), (6, .int (nI k)), (5, .int 0), (4, .int (nI y)), (3, .ref aG), (2, .int (nI x)), (1, .ref aF), (0, .ref cm)] dX1_holds_93 (by decide) rfl ?_
                refine ax_iload hC 3 dX1_holds_95 rfl ?_
                refine ax_if_ne (tgt := 104) hC dX1_holds_97 (by decide) (fun c2008 => ?_) (fun c2008 => ?_)
                · exact absurd c2008 (by decide)
                · refine ax_aload_n hC 7 dX1_holds_100 rfl rfl ?_
                  refine ax_goto (tgt := 105) hC dX1_holds_101 (by decide) ?_
                  refine ax_astore hC [(11, .ref aG), (10, .ref aF), (9, .int (nI v)), (8, .int (nI u)), (7, .int 0), (6, .int (nI k)), (5, .int 0), (4, .int (nI y)), (3, .ref aG), (2, .int (nI x)), (1, .ref aF), (0, .ref cm)] dX1_holds_105 (by decide) rfl ?_
                  refine ax_aload_n hC 11 dX1_holds_107 rfl rfl ?_
                  refine ax_aload hC 1 dX1_holds_108 rfl ?_
                  refine ax_iload hC 3 dX1_holds_110 rfl ?_
                  refine ax_aload hC 0 dX1_holds_112 rfl ?_
                  refine ax_iload hC 2 dX1_holds_114 rfl ?_
                  refine ax_iload hC 4 dX1_holds_116 rfl ?_
                  refine ax_iload hC 6 dX1_holds_118 rfl ?_
                  refine ax_callVi (st := []) hC [.ref aF, .int (nI u), .ref aG, .int (nI v), .int 0, .int 0] o1 rfl (c_X1_spread l D z B lo _ hX cm aF aG 0 u v _ _ TF TG _ hLX2 hFX hGX hwF hwG (by omega) hu0 hv0 (by omega) (by omega)) (cwV 6 hC.1.2.2.2.2 gX1_holds_X1_spread rfl rfl rfl (by decide +kernel) ⟨Nat.le_of_ble_eq_true rfl, Nat.le_of_ble_eq_true rfl⟩) rfl rfl (Nat.le_of_ble_eq_true rfl) dX1_holds_120 ⟨Nat.le_of_ble_eq_true rfl, Nat.le_of_ble_eq_true rfl⟩ (fun r2009 hi2010 h2011 hp2012 => ?_)
                  obtain ⟨ei2013, fr2014, hc2015⟩ := hp2012
                  replace ei2013 := ei2013.symm
                  subst ei2013
                  rcases hc2015 with ⟨rr, hok, hL3⟩ | ⟨rr, hno, Ls3, hL3⟩
                  · subst rr
                    refine ax_if_ne (tgt := 128) hC dX1_holds_123 (by decide) (fun c2016 => ?_) (fun c2016 => ?_)
                    · refine ax_iinc (v := (nI k) + 1) hC 5 [(6, .int ((nI k) + 1)), (11, .ref aG), (10, .ref aF), (9, .int (nI v)), (8, .int (nI u)), (7, .int 0), (5, .int 0), (4, .int (nI y)), (3, .ref aG), (2, .int (nI x)), (1, .ref aF), (0, .ref cm)] dX1_holds_128 rfl rfl (by decide) rfl ?_
                      refine ax_goto (tgt := 24) hC dX1_holds_131 (by decide) ?_
                      refine ax_locals [0, 6, 7, 8, 9, 10, 11] (L' := [(6, .int ((nI k) + 1)), (5, .int 0), (4, .int (nI y)), (3, .ref aG), (2, .int (nI x)), (1, .ref aF), (0, .ref cm)]) rfl ?_
                      rw [show (nI k + 1) = nI (k + 1) from nI_1 k]
                      exact ih (k + 1) h2011 _ (by omega) (by have := (pre_lext Ls (sucL TF TG 0 u v)).length_le; omega) (fun q hq => (fr2014 q hq).trans (hfr q hq)) hL3 (HI_step hwF hwG hI hk (by omega) hu0 hv0 hok)
                    · exact absurd c2016 (by decide)
                  · subst rr
                    refine ax_if_ne (tgt := 128) hC dX1_holds_123 (by decide) (fun c2018 => ?_) (fun c2018 => ?_)
                    · exact absurd c2018 (by decide)
                    · refine ax_iconst (v := 0) hC dX1_holds_126 (by decide) ?_
                      refine ax_zret hC hr hlocks dX1_holds_127 (by decide) ?_
                      exact ⟨rfl, fun q hq => (fr2014 q hq).trans (hfr q hq), hL3.S, Or.inr ⟨rfl, fun ⟨R, r0, hR⟩ => hno (hR 0 u v (by omega) hu0 hv0 (hI.2.2.1 R r0 hR _ (List.mem_of_getElem? hk))).1⟩⟩
        · have hu1 : u < pcap TG := hu0
          have hv1 : v < pcap TF := hv0
          have hwF1 := hwF.1
          have hwG1 := hwG.1
          have hdc := cod_dec 1 u v (by omega) (by omega)
          have hc31 : cod 1 u v < 2 ^ 31 := by unfold cod; omega
          refine ax_iload hC 0 dX1_holds_24 rfl ?_
          refine ax_aload_n hC 6 dX1_holds_26 rfl rfl ?_
          refine ax_getf (v := .int (nI Ls.length)) hC o1 iX1 rfl 2 (by decide) (by decide +kernel) rfl rfl dX1_holds_27 ?_
          refine ax_icmp_ge (tgt := 134) hC dX1_holds_30 (by decide) (fun c2019 => ?_) (fun c2019 => ?_)
          · exact absurd c2019 (nI_ge (by omega) (by omega))
          · refine ax_iload hC 0 dX1_holds_33 rfl ?_
            refine ax_aload_n hC 6 dX1_holds_35 rfl rfl ?_
            refine ax_getf (v := .ref (cm + 2)) hC o1 iX1 rfl 1 (by decide) (by decide +kernel) rfl rfl dX1_holds_36 ?_
            refine ax_alen (v := 7200) hC o3 1 rfl rfl dX1_holds_39 ?_
            refine ax_icmp_ge (tgt := 134) hC dX1_holds_40 (by decide) (fun c2020 => ?_) (fun c2020 => ?_)
            · exact absurd c2020 (fun q => by have q2 := (L_leN (k := 7200) (by decide) (by omega)).mp q; omega)
            · refine ax_aload_n hC 6 dX1_holds_43 rfl rfl ?_
              refine ax_getf (v := .ref (cm + 2)) hC o1 iX1 rfl 1 (by decide) (by decide +kernel) rfl rfl dX1_holds_44 ?_
              refine ax_iload hC 0 dX1_holds_47 rfl ?_
              have b2021 : vp_in (nI k) 7200 := vp_in_nI (by omega) (by omega)
              refine ax_iald hC o3 1 rfl b2021 dX1_holds_49 ?_
              refine ax_eqi (y := pairsX k) (by rw [nI_clamp (by omega)]) ?_
              refine ax_eqi (y := nI (cod 1 u v)) (hpk) ?_
              refine ax_sipush (v := 3600) hC dX1_holds_50 (by decide) ?_
              refine ax_idiv hC dX1_holds_53 (by decide) ?_
              refine ax_eqi (y := 1) ((pk_div (a := cod 1 u v) (d := 3600) hc31 (by decide) (by decide)).trans (by rw [hdc.1]; rfl)) ?_
              refine ax_istore hC [(7, .int 1), (6, .int (nI k)), (5, .int 0), (4, .int (nI y)), (3, .ref aG), (2, .int (nI x)), (1, .ref aF), (0, .ref cm)] dX1_holds_54 (by decide) rfl ?_
              refine ax_aload_n hC 7 dX1_holds_56 rfl rfl ?_
              refine ax_getf (v := .ref (cm + 2)) hC o1 iX1 rfl 1 (by decide) (by decide +kernel) rfl rfl dX1_holds_57 ?_
              refine ax_iload hC 1 dX1_holds_60 rfl ?_
              have b2022 : vp_in (nI k) 7200 := vp_in_nI (by omega) (by omega)
              refine ax_iald hC o3 1 rfl b2022 dX1_holds_62 ?_
              refine ax_eqi (y := pairsX k) (by rw [nI_clamp (by omega)]) ?_
              refine ax_eqi (y := nI (cod 1 u v)) (hpk) ?_
              refine ax_bipush (v := 60) hC dX1_holds_63 (by decide) ?_
              refine ax_idiv hC dX1_holds_65 (by decide) ?_
              refine ax_eqi (y := nI (cod 1 u v / 60)) (pk_div (d := 60) hc31 (by decide) (by decide)) ?_
              refine ax_bipush (v := 60) hC dX1_holds_66 (by decide) ?_
              refine ax_irem hC dX1_holds_68 (by decide) ?_
              refine ax_eqi (y := nI u) ((pk_rem (d := 60) (by omega) (by decide) (by decide)).trans (by rw [hdc.2.1])) ?_
              refine ax_istore hC [(8, .int (nI u)), (7, .int 1), (6, .int (nI k)), (5, .int 0), (4, .int (nI y)), (3, .ref aG), (2, .int (nI x)), (1, .ref aF), (0, .ref cm)] dX1_holds_69 (by decide) rfl ?_
              refine ax_aload_n hC 8 dX1_holds_71 rfl rfl ?_
              refine ax_getf (v := .ref (cm + 2)) hC o1 iX1 rfl 1 (by decide) (by decide +kernel) rfl rfl dX1_holds_72 ?_
              refine ax_iload hC 2 dX1_holds_75 rfl ?_
              have b2023 : vp_in (nI k) 7200 := vp_in_nI (by omega) (by omega)
              refine ax_iald hC o3 1 rfl b2023 dX1_holds_77 ?_
              refine ax_eqi (y := pairsX k) (by rw [nI_clamp (by omega)]) ?_
              refine ax_eqi (y := nI (cod 1 u v)) (hpk) ?_
              refine ax_bipush (v := 60) hC dX1_holds_78 (by decide) ?_
              refine ax_irem hC dX1_holds_80 (by decide) ?_
              refine ax_eqi (y := nI v) ((pk_rem (d := 60) hc31 (by decide) (by decide)).trans (by rw [hdc.2.2])) ?_
              refine ax_istore hC [(9, .int (nI v)), (8, .int (nI u)), (7, .int 1), (6, .int (nI k)), (5, .int 0), (4, .int (nI y)), (3, .ref aG), (2, .int (nI x)), (1, .ref aF), (0, .ref cm)] dX1_holds_81 (by decide) rfl ?_
              refine ax_iload hC 2 dX1_holds_83 rfl ?_
              refine ax_if_ne (tgt := 92) hC dX1_holds_85 (by decide) (fun c2024 => ?_) (fun c2024 => ?_)
              · refine ax_aload_n hC 6 dX1_holds_92 rfl rfl ?_
                refine ax_astore hC [(10, .ref aG), (9, .int (nI v)), (8, .int (nI u)), (7, .int 1), (6, .int (nI k)), (5, .int 0), (4, .int (nI y)), (3, .ref aG), (2, .int (nI x)), (1, .ref aF), (0, .ref cm)] dX1_holds_93 (by decide) rfl ?_
                refine ax_iload hC 3 dX1_holds_95 rfl ?_
                refine ax_if_ne (tgt := 104) hC dX1_holds_97 (by decide) (fun c2025 => ?_) (fun c2025 => ?_)
                · refine ax_aload_n hC 9 dX1_holds_104 rfl rfl ?_
                  refine ax_astore hC [(11, .ref aF), (10, .ref aG), (9, .int (nI v)), (8, .int (nI u)), (7, .int 1), (6, .int (nI k)), (5, .int 0), (4, .int (nI y)), (3, .ref aG), (2, .int (nI x)), (1, .ref aF), (0, .ref cm)] dX1_holds_105 (by decide) rfl ?_
                  refine ax_aload_n hC 11 dX1_holds_107 rfl rfl ?_
                  refine ax_aload hC 1 dX1_holds_108 rfl ?_
                  refine ax_iload hC 3 dX1_holds_110 rfl ?_
                  refine ax_aload hC 0 dX1_holds_112 rfl ?_
                  refine ax_iload hC 2 dX1_holds_114 rfl ?_
                  refine ax_iload hC 4 dX1_holds_116 rfl ?_
                  refine ax_iload hC 6 dX1_holds_118 rfl ?_
                  refine ax_callVi (st := []) hC [.ref aG, .int (nI u), .ref aF, .int (nI v), .int 1, .int 0] o1 rfl (c_X1_spread l D z B lo _ hX cm aG aF 1 u v _ _ TG TF _ hLX2 hGX hFX hwG hwF (by omega) hu0 hv0 (by omega) (by omega)) (cwV 6 hC.1.2.2.2.2 gX1_holds_X1_spread rfl rfl rfl (by decide +kernel) ⟨Nat.le_of_ble_eq_true rfl, Nat.le_of_ble_eq_true rfl⟩) rfl rfl (Nat.le_of_ble_eq_true rfl) dX1_holds_120 ⟨Nat.le_of_ble_eq_true rfl, Nat.le_of_ble_eq_true rfl⟩ (fun r2026 hi2027 h2028 hp2029 => ?_)
                  obtain ⟨ei2030, fr2031, hc2032⟩ := hp2029
                  replace ei2030 := ei2030.symm
                  subst ei2030
                  rcases hc2032 with ⟨rr, hok, hL3⟩ | ⟨rr, hno, Ls3, hL3⟩
                  · subst rr
                    refine ax_if_ne (tgt := 128) hC dX1_holds_123 (by decide) (fun c2033 => ?_) (fun c2033 => ?_)
                    · refine ax_iinc (v := (nI k) + 1) hC 5 [(6, .int ((nI k) + 1)), (11, .ref aF), (10, .ref aG), (9, .int (nI v)), (8, .int (nI u)), (7, .int 1), (5, .int 0), (4, .int (nI y)), (3, .ref aG), (2, .int (nI x)), (1, .ref aF), (0, .ref cm)] dX1_holds_128 rfl rfl (by decide) rfl ?_
                      refine ax_goto (tgt := 24) hC dX1_holds_131 (by decide) ?_
                      refine ax_locals [0, 6, 7, 8, 9, 10, 11] (L' := [(6, .int ((nI k) + 1)), (5, .int 0), (4, .int (nI y)), (3, .ref aG), (2, .int (nI x)), (1, .ref aF), (0, .ref cm)]) rfl ?_
                      rw [show (nI k + 1) = nI (k + 1) from nI_1 k]
                      exact ih (k + 1) h2028 _ (by omega) (by have := (pre_lext Ls (sucL TG TF 1 u v)).length_le; omega) (fun q hq => (fr2031 q hq).trans (hfr q hq)) hL3 (HI_step hwF hwG hI hk (by omega) hu0 hv0 hok)
                    · exact absurd c2033 (by decide)
                  · subst rr
                    refine ax_if_ne (tgt := 128) hC dX1_holds_123 (by decide) (fun c2035 => ?_) (fun c2035 => ?_)
                    · exact absurd c2035 (by decide)
                    · refine ax_iconst (v := 0) hC dX1_holds_126 (by decide) ?_
                      refine ax_zret hC hr hlocks dX1_holds_127 (by decide) ?_
                      exact ⟨rfl, fun q hq => (fr2031 q hq).trans (hfr q hq), hL3.S, Or.inr ⟨rfl, fun ⟨R, r0, hR⟩ => hno (hR 1 u v (by omega) hu0 hv0 (hI.2.2.1 R r0 hR _ (List.mem_of_getElem? hk))).1⟩⟩
                · exact absurd c2025 (by decide)
              · exact absurd c2024 (by decide)
  refine ax_aload_n hC 0 dX1_holds_0 rfl rfl ?_
  refine ax_getf (v := .ref (cm + 1)) hC q1 iX1 rfl 0 (by decide) (by decide +kernel) rfl rfl dX1_holds_1 ?_
  refine ax_lconst (v := 0) hC dX1_holds_4 (by decide) ?_
  refine ax_callSv (st := []) hC [.ref (cm + 1), .long 0] (c_J7_fill_d0a16 l D z B lo _ h (cm + 1) 120 seen 0 q2 (by decide)) (va_cwS 2 hC.1.2.2.2.2 gX1_holds_J7_fill_d0a16 rfl rfl rfl (by decide +kernel) ⟨Nat.le_of_ble_eq_true rfl, Nat.le_of_ble_eq_true rfl⟩) rfl rfl (Nat.le_of_ble_eq_true rfl) dX1_holds_5 ⟨Nat.le_of_ble_eq_true rfl, Nat.le_of_ble_eq_true rfl⟩ (fun hi1 h2 hp3 => ?_)
  obtain ⟨ei4, fr5, g6, e7, hz8⟩ := hp3
  replace ei4 := ei4.symm
  subst ei4
  have x9 : h2 cm = some (.inr (3, [.ref (cm + 1), .ref (cm + 2), .int fnd])) := (fr5 _ (by omega)).trans q1
  have x10 : h2 (cm + 2) = some (.inl (z 1, 7200, .inl (pairs))) := (fr5 _ (by omega)).trans q3
  have hp_11 : PrC z h2 aF _ TF := hF.kept (fun q _ _ => fr5 q (by omega))
  have hp_12 : PrC z h2 aG _ TG := hG.kept (fun q _ _ => fr5 q (by omega))
  refine ax_aload_n hC 0 dX1_holds_8 rfl rfl ?_
  refine ax_iconst (v := 0) hC dX1_holds_9 (by decide) ?_
  refine ax_putf (v := .int 0) (ty := .int) hC tyX1 x9 iX1 tyX1_ok nmX1 rfl 2 (by decide) (by decide +kernel) rfl rfl (by decide +kernel) (rfl) rfl (Nat.le_of_ble_eq_true rfl) dX1_holds_10 (fun h13 e14 f15 => ?_)
  have e14 : h13 cm = some (.inr (3, [.ref (cm + 1), .ref (cm + 2), .int 0])) := e14
  have x16 : h13 (cm + 2) = some (.inl (z 1, 7200, .inl (pairs))) := (f15 _ (by omega)).trans x10
  have x17 : h13 (cm + 1) = some (.inl (z 2, 120, .inr (.inl (g6)))) := (f15 _ (by omega)).trans e7
  have hp_18 : PrC z h13 aF _ TF := hp_11.kept (fun q _ _ => f15 q (by omega))
  have hp_19 : PrC z h13 aG _ TG := hp_12.kept (fun q _ _ => f15 q (by omega))
  have hL0 : CmpL z h13 cm [] := ⟨_, _, e14, x17, x16, List.nodup_nil, by simp, by simp, fun r v hr2 hv2 => by rw [hz8 r hr2]; simp [lb_zero]⟩
  refine ax_aload_n hC 0 dX1_holds_13 rfl rfl ?_
  refine ax_iconst (v := 0) hC dX1_holds_14 (by decide) ?_
  refine ax_iload_n hC 2 dX1_holds_15 rfl rfl ?_
  refine ax_iload hC 4 dX1_holds_16 rfl ?_
  refine ax_callVv (st := []) hC [.int 0, .int (nI x), .int (nI y)] e14 rfl (c_X1_add l D z B lo _ h13 cm 0 x y _ hL0 (by omega) (by omega) (by omega)) (cwV 3 hC.1.2.2.2.2 gX1_holds_X1_add rfl rfl rfl (by decide +kernel) ⟨Nat.le_of_ble_eq_true rfl, Nat.le_of_ble_eq_true rfl⟩) rfl rfl (Nat.le_of_ble_eq_true rfl) dX1_holds_18 ⟨Nat.le_of_ble_eq_true rfl, Nat.le_of_ble_eq_true rfl⟩ (fun hi20 h21 hp22 => ?_)
  obtain ⟨ei23, fr24, hL25⟩ := hp22
  replace ei23 := ei23.symm
  subst ei23
  obtain ⟨seen_hL25, pairs_hL25, hL25o, -⟩ := id hL25
  have hp_26 : PrC z h21 aF _ TF := hp_18.kept (fun q _ _ => fr24 q (by omega))
  have hp_27 : PrC z h21 aG _ TG := hp_19.kept (fun q _ _ => fr24 q (by omega))
  refine ax_iconst (v := 0) hC dX1_holds_21 (by decide) ?_
  refine ax_istore hC [(6, .int 0), (0, .ref cm), (1, .ref aF), (2, .int (nI x)), (3, .ref aG), (4, .int (nI y)), (5, .int 0)] dX1_holds_22 (by decide) rfl ?_
  refine ax_locals [0, 6, 5, 4, 3, 2, 1] (L' := [(6, .int 0), (5, .int 0), (4, .int (nI y)), (3, .ref aG), (2, .int (nI x)), (1, .ref aF), (0, .ref cm)]) rfl ?_
  have e1 : ladd [] (3600 * 0 + 60 * x + y) = [cod 0 x y] := by simp [ladd, cod]
  rw [e1] at hL25
  exact LP 7200 0 h21 [cod 0 x y] (by omega) (by simp) (fun q hq => ((fr24 q (by omega)).trans ((f15 q (by omega)).trans (fr5 q (by omega))))) hL25 ⟨by simp, fun c hc => by simp at hc; subst hc; exact ⟨0, x, y, rfl, by omega, hx, hy⟩, fun R r0 hR c hc => by simp at hc; subst hc; exact r0, fun j c hj => absurd hj (by omega)⟩
