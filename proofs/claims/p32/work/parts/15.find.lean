def HJ_ (P Q : PT) (x y k : Nat) (Ls : List Nat) : Prop := 60 * x + y ∈ Ls ∧ (∀ c ∈ Ls, ∃ u v, c = 60 * u + v ∧ u < pcap P ∧ v < pcap Q) ∧ (∀ W : Nat → Prop, W (60 * x + y) → FitW P Q W → ∀ c ∈ Ls, W c) ∧ (∀ j, j < k → ∀ u v, Ls[j]? = some (60 * u + v) → u < 60 → v < 60 → okw P Q u v ∧ ∀ d ∈ fol P Q u v, d ∈ Ls)
theorem fol_V {P Q : PT} (hP : wfP P) (hQ : wfP Q) {u v c : Nat} (hc : c ∈ fol P Q u v) : ∃ a b, c = 60 * a + b ∧ a < pcap P ∧ b < pcap Q := by
  unfold fol at hc
  split at hc
  · simp at hc; subst hc; exact ⟨_, _, rfl, (stp_eq hP _ _).2, (stp_eq hQ _ _).2⟩
  · split at hc
    · obtain ⟨j, -, rfl⟩ := List.mem_map.mp hc
      exact ⟨_, _, rfl, (stp_eq hP _ _).2, (stp_eq hQ _ _).2⟩
    · simp at hc
theorem HJ_fit {P Q : PT} {x y : Nat} {Ls : List Nat} (hP : wfP P) (hQ : wfP Q) (hx : x < pcap P) (hy : y < pcap Q) {k : Nat} (h : HJ_ P Q x y k Ls) (hk : Ls.length ≤ k) : Fit P Q x y := by
  refine (fit_iff hP hQ hx hy).mp ⟨fun c => c ∈ Ls, h.1, fun u v hu hv hc => ?_⟩
  obtain ⟨j, hj⟩ := List.getElem?_of_mem hc
  have hjl := (List.getElem?_eq_some_iff.mp hj).1
  have := hP.1
  have := hQ.1
  exact h.2.2.2 j (by omega) u v hj (by omega) (by omega)
theorem HJ_step {P Q : PT} {x y k : Nat} {Ls : List Nat} (hP : wfP P) (hQ : wfP Q) (h : HJ_ P Q x y k Ls) {u v : Nat} (hk : Ls[k]? = some (60 * u + v)) (hu : u < pcap P) (hv : v < pcap Q) (hok : okw P Q u v) : HJ_ P Q x y (k + 1) (lext Ls (fol P Q u v)) := by
  obtain ⟨a, b, c, d⟩ := h
  have h1 := hP.1
  have h2 := hQ.1
  refine ⟨mem_lext.mpr (Or.inl a), fun e he => ?_, fun W w0 hW e he => ?_, fun j hj u' v' he hu' hv' => ?_⟩
  · rcases mem_lext.mp he with q | q
    · exact b e q
    · exact fol_V hP hQ q
  · rcases mem_lext.mp he with q | q
    · exact c W w0 hW e q
    · exact (hW u v hu hv (c W w0 hW _ (List.mem_of_getElem? hk))).2 e q
  · have hkl := (List.getElem?_eq_some_iff.mp hk).1
    have he' : Ls[j]? = some (60 * u' + v') := by
      obtain ⟨t, ht⟩ := pre_lext Ls (fol P Q u v)
      rw [← ht, List.getElem?_append_left (by omega)] at he
      exact he
    by_cases hjk : j < k
    · obtain ⟨g1, g2⟩ := d j hjk u' v' he' hu' hv'
      exact ⟨g1, fun w hw => mem_lext.mpr (Or.inl (g2 w hw))⟩
    · have : j = k := by omega
      subst this
      rw [hk] at he'
      have e2 : 60 * u + v = 60 * u' + v' := Option.some.inj he'
      obtain rfl : u = u' := by omega
      obtain rfl : v = v' := by omega
      exact ⟨hok, fun w hw => mem_lext.mpr (Or.inr hw)⟩
theorem okw_no {P Q : PT} {x y k : Nat} {Ls : List Nat} (hP : wfP P) (hQ : wfP Q) (hx : x < pcap P) (hy : y < pcap Q) (h : HJ_ P Q x y k Ls) {u v : Nat} (hk : 60 * u + v ∈ Ls) (hu : u < pcap P) (hv : v < pcap Q) (hno : ¬ okw P Q u v) : ¬ Fit P Q x y := fun hF => by
  obtain ⟨W, w0, hW⟩ := (fit_iff hP hQ hx hy).mpr hF
  exact hno (hW u v hu hv (h.2.2.1 W w0 hW _ hk)).1

abbrev rmX3_find : Room := { frames := 3, cells := 0, slots := 0, locals := 89 }
set_option maxRecDepth 100000 in
set_option maxHeartbeats 4000000 in
theorem c_X3_find (l : Launch) (D : va_G) (z : Nat → ClassId) (B : Heap) (lo hi : Nat) (h : Nat → Option va_E) (hn cm aF aG x y : Nat) (ndF ndG : Int32) (TF TG : PT) (hH : HinS z h hn cm) (hS : CmpS z h cm) (hF : PrC z h aF ndF TF) (hG : PrC z h aG ndG TG) (hwF : wfP TF) (hwG : wfP TG) (hx : x < pcap TF) (hy : y < pcap TG) (hch : cm + 3 ≤ hn) (hdF : hn + 6 ≤ aF) (hdG : hn + 6 ≤ aG) : Met l yX3_find wsX3_find rmX3_find (KP D vwCl B lo hi h (ty6 z) [.ref hn, .ref aF, .int (nI x), .ref aG, .int (nI y)]) (KQi D vwCl B lo (ty6 z) (fun r hi' h' => hi' = hi ∧ (∀ q, (q < cm ∨ hn + 6 ≤ q) → h' q = h q) ∧ CmpS z h' cm ∧ HinS z h' hn cm ∧ ((r = 0 ∧ Fit TF TG x y) ∨ ((∃ t, t ≤ 3600 ∧ r = nI (t + 1)) ∧ ¬ Fit TF TG x y)))) 0 0 (fun q => lo ≤ q) := by
  obtain ⟨len0, fnd0, tx, pr, fm, sp, seen, q0, q1, q2, q3, q4, q5⟩ := hH
  have hwF1 := hwF.1
  have hwG1 := hwG.1
  refine ax_met (by decide) rfl (Nat.le_of_ble_eq_true rfl) (L0 := [(0, .ref hn), (1, .ref aF), (2, .int (nI x)), (3, .ref aG), (4, .int (nI y))]) rfl ?_
  intro p e s m args below meth c hC hr hlocks hnm hargs
  have iX3 : ∀ w ∈ u_ws RX3 TX3 8, w ∈ wsX3_find := by decide +kernel
  have LP : ∀ (n k : Nat) (hX : Nat → Option va_E) (Ls : List Nat), k + n = 3600 → k ≤ Ls.length → (∀ q, (q < cm ∨ hn + 6 ≤ q) → hX q = h q) → HinL z hX hn cm 0 Ls → CmpS z hX cm → HJ_ TF TG x y k Ls → Gx p l e rmX3_find s m args below meth c D vwCl B lo 10 (MQ below (KQi D vwCl B lo (ty6 z) (fun r hi' h' => hi' = hi ∧ (∀ q, (q < cm ∨ hn + 6 ≤ q) → h' q = h q) ∧ CmpS z h' cm ∧ HinS z h' hn cm ∧ ((r = 0 ∧ Fit TF TG x y) ∨ ((∃ t, t ≤ 3600 ∧ r = nI (t + 1)) ∧ ¬ Fit TF TG x y)))) args s 0 0 (fun q => lo ≤ q)) hi hX 0 0 [(5, .int (nI k)), (4, .int (nI y)), (3, .ref aG), (2, .int (nI x)), (1, .ref aF), (0, .ref hn)] 30 [] := by
    intro n
    induction n with
    | zero =>
      intro k hX Ls hkn hkl hfr hHX hSX hJ
      have hFX : PrC z hX aF _ TF := hF.kept (fun q _ _ => hfr q (by omega))
      have hGX : PrC z hX aG _ TG := hG.kept (fun q _ _ => hfr q (by omega))
      have hHX2 := hHX
      obtain ⟨tx, pr, fm, sp, seen, q0, q1, q2, q3, q4, q5, hnd, hlt, hpr, hbit⟩ := hHX
      obtain ⟨_, _, _, hSo, -⟩ := id hSX
      have hlen : Ls.length ≤ 3600 := nodup_len _ _ hnd hlt
      refine ax_iload hC 0 dX3_find_30 rfl ?_
      refine ax_aload_n hC 5 dX3_find_32 rfl rfl ?_
      refine ax_getf (v := .int (nI Ls.length)) hC q0 iX3 rfl 7 (by decide) (by decide +kernel) rfl rfl dX3_find_33 ?_
      refine ax_icmp_ge (tgt := 203) hC dX3_find_36 (by decide) (fun c1001 => ?_) (fun c1001 => ?_)
      · refine ax_iconst (v := 0) hC dX3_find_203 (by decide) ?_
        refine ax_iret hC hr hlocks dX3_find_204 ?_
        exact ⟨rfl, fun q hq => (hfr q hq), hSX, hHX2.S, Or.inl ⟨rfl, HJ_fit hwF hwG hx hy hJ (by omega)⟩⟩
      · exact absurd (nI_le (by omega) (by omega)) c1001
    | succ n ih =>
      intro k hX Ls hkn hkl hfr hHX hSX hJ
      have hFX : PrC z hX aF _ TF := hF.kept (fun q _ _ => hfr q (by omega))
      have hGX : PrC z hX aG _ TG := hG.kept (fun q _ _ => hfr q (by omega))
      have hHX2 := hHX
      obtain ⟨tx, pr, fm, sp, seen, q0, q1, q2, q3, q4, q5, hnd, hlt, hpr, hbit⟩ := hHX
      obtain ⟨_, _, _, hSo, -⟩ := id hSX
      have hlen : Ls.length ≤ 3600 := nodup_len _ _ hnd hlt
      by_cases hkk : Ls.length ≤ k
      · refine ax_iload hC 0 dX3_find_30 rfl ?_
        refine ax_aload_n hC 5 dX3_find_32 rfl rfl ?_
        refine ax_getf (v := .int (nI Ls.length)) hC q0 iX3 rfl 7 (by decide) (by decide +kernel) rfl rfl dX3_find_33 ?_
        refine ax_icmp_ge (tgt := 203) hC dX3_find_36 (by decide) (fun c2001 => ?_) (fun c2001 => ?_)
        · refine ax_iconst (v := 0) hC dX3_find_203 (by decide) ?_
          refine ax_iret hC hr hlocks dX3_find_204 ?_
          exact ⟨rfl, fun q hq => (hfr q hq), hSX, hHX2.S, Or.inl ⟨rfl, HJ_fit hwF hwG hx hy hJ (by omega)⟩⟩
        · exact absurd (nI_le (by omega) (by omega)) c2001
      · obtain ⟨cc0, hk⟩ : ∃ cc0, Ls[k]? = some cc0 := ⟨_, List.getElem?_eq_getElem (by omega)⟩
        obtain ⟨u, v, rfl, hu1, hv1⟩ := hJ.2.1 cc0 (List.mem_of_getElem? hk)
        have hpk := hpr k _ hk
        have hwF1 := hwF.1
        have hwG1 := hwG.1
        have hmp := mod_pair u v (by omega)
        have hc31 : 60 * u + v < 2 ^ 31 := by omega
        refine ax_iload hC 0 dX3_find_30 rfl ?_
        refine ax_aload_n hC 5 dX3_find_32 rfl rfl ?_
        refine ax_getf (v := .int (nI Ls.length)) hC q0 iX3 rfl 7 (by decide) (by decide +kernel) rfl rfl dX3_find_33 ?_
        refine ax_icmp_ge (tgt := 203) hC dX3_find_36 (by decide) (fun c2002 => ?_) (fun c2002 => ?_)
        · exact absurd c2002 (nI_ge (by omega) (by omega))
        · refine ax_iload hC 0 dX3_find_39 rfl ?_
          refine ax_aload_n hC 5 dX3_find_41 rfl rfl ?_
          refine ax_getf (v := .ref (hn + 3)) hC q0 iX3 rfl 4 (by decide) (by decide +kernel) rfl rfl dX3_find_42 ?_
          refine ax_alen (v := 3600) hC q3 1 rfl rfl dX3_find_45 ?_
          refine ax_icmp_ge (tgt := 203) hC dX3_find_46 (by decide) (fun c2003 => ?_) (fun c2003 => ?_)
          · exact absurd c2003 (fun q => by have q2 := (L_leN (k := 3600) (by decide) (by omega)).mp q; omega)
          · refine ax_aload_n hC 5 dX3_find_49 rfl rfl ?_
            refine ax_getf (v := .ref (hn + 3)) hC q0 iX3 rfl 4 (by decide) (by decide +kernel) rfl rfl dX3_find_50 ?_
            refine ax_iload hC 0 dX3_find_53 rfl ?_
            have b2004 : vp_in (nI k) 3600 := vp_in_nI (by omega) (by omega)
            refine ax_iald hC q3 1 rfl b2004 dX3_find_55 ?_
            refine ax_eqi (y := pr k) (by rw [nI_clamp (by omega)]) ?_
            refine ax_eqi (y := nI (60 * u + v)) (hpk) ?_
            refine ax_bipush (v := 60) hC dX3_find_56 (by decide) ?_
            refine ax_idiv hC dX3_find_58 (by decide) ?_
            refine ax_eqi (y := nI u) ((pk_div (d := 60) hc31 (by decide) (by decide)).trans (by rw [hmp.1])) ?_
            refine ax_istore hC [(6, .int (nI u)), (5, .int (nI k)), (4, .int (nI y)), (3, .ref aG), (2, .int (nI x)), (1, .ref aF), (0, .ref hn)] dX3_find_59 (by decide) rfl ?_
            refine ax_aload_n hC 6 dX3_find_61 rfl rfl ?_
            refine ax_getf (v := .ref (hn + 3)) hC q0 iX3 rfl 4 (by decide) (by decide +kernel) rfl rfl dX3_find_62 ?_
            refine ax_iload hC 1 dX3_find_65 rfl ?_
            have b2005 : vp_in (nI k) 3600 := vp_in_nI (by omega) (by omega)
            refine ax_iald hC q3 1 rfl b2005 dX3_find_67 ?_
            refine ax_eqi (y := pr k) (by rw [nI_clamp (by omega)]) ?_
            refine ax_eqi (y := nI (60 * u + v)) (hpk) ?_
            refine ax_bipush (v := 60) hC dX3_find_68 (by decide) ?_
            refine ax_irem hC dX3_find_70 (by decide) ?_
            refine ax_eqi (y := nI v) ((pk_rem (d := 60) hc31 (by decide) (by decide)).trans (by rw [hmp.2])) ?_
            refine ax_istore hC [(7, .int (nI v)), (6, .int (nI u)), (5, .int (nI k)), (4, .int (nI y)), (3, .ref aG), (2, .int (nI x)), (1, .ref aF), (0, .ref hn)] dX3_find_71 (by decide) rfl ?_
            refine ax_aload_n hC 6 dX3_find_73 rfl rfl ?_
            refine ax_iload hC 1 dX3_find_74 rfl ?_
            refine ax_aload_n hC 4 dX3_find_76 rfl rfl ?_
            refine ax_iload hC 0 dX3_find_77 rfl ?_
            refine ax_callSp (st := []) hC [.ref aF, .int (nI u), .ref aG, .int (nI v)] (c_X3_plainHindrance l D z B lo _ hX aF aG u v _ _ TF TG hFX hGX hwF hwG hu1 hv1) (va_cwS 4 hC.1.2.2.2.2 gX3_find_X3_plainHindrance rfl rfl rfl (by decide +kernel) ⟨Nat.le_of_ble_eq_true rfl, Nat.le_of_ble_eq_true rfl⟩) rfl rfl (Nat.le_of_ble_eq_true rfl) dX3_find_79 ⟨Nat.le_of_ble_eq_true rfl, Nat.le_of_ble_eq_true rfl⟩ (fun r2006 er2007 => ?_)
            subst er2007
            refine ax_istore hC [(8, .int (plh TF TG u v)), (7, .int (nI v)), (6, .int (nI u)), (5, .int (nI k)), (4, .int (nI y)), (3, .ref aG), (2, .int (nI x)), (1, .ref aF), (0, .ref hn)] dX3_find_82 (by decide) rfl ?_
            refine ax_iload hC 0 dX3_find_84 rfl ?_
            refine ax_if_ne (tgt := 167) hC dX3_find_86 (by decide) (fun c2008 => ?_) (fun c2008 => ?_)
            · refine ax_iload hC 0 dX3_find_167 rfl ?_
              refine ax_if_eq (tgt := 185) hC dX3_find_169 (by decide) (fun c2009 => ?_) (fun c2009 => ?_)
              · exact absurd c2009 c2008
              · refine ax_aload_n hC 8 dX3_find_172 rfl rfl ?_
                refine ax_iload hC 3 dX3_find_173 rfl ?_
                refine ax_iload hC 0 dX3_find_175 rfl ?_
                refine ax_callVv (st := []) hC [.int (nI k), .int (plh TF TG u v)] q0 rfl (c_X3_write l D z B lo _ hX hn cm _ (nI k) (plh TF TG u v) _ hHX2) (cwV 2 hC.1.2.2.2.2 gX3_find_X3_write rfl rfl rfl (by decide +kernel) ⟨Nat.le_of_ble_eq_true rfl, Nat.le_of_ble_eq_true rfl⟩) rfl rfl (Nat.le_of_ble_eq_true rfl) dX3_find_177 ⟨Nat.le_of_ble_eq_true rfl, Nat.le_of_ble_eq_true rfl⟩ (fun hi2010 h2011 hp2012 => ?_)
                obtain ⟨ei2013, fr2014, o2015, o2016, o2017⟩ := hp2012
                replace ei2013 := ei2013.symm
                subst ei2013
                have hp_2018 : PrC z h2011 aF _ TF := hFX.kept (fun q _ _ => fr2014 q (by omega))
                have hp_2019 : PrC z h2011 aG _ TG := hGX.kept (fun q _ _ => fr2014 q (by omega))
                have hS2020 := CmpS.kept (h' := h2011) hSX (fun q _ _ => fr2014 q (by omega))
                obtain ⟨_, _, _, hS2020o, -⟩ := id hS2020
                obtain ⟨_, _, _, _, _, o2016o, -⟩ := id o2016
                refine ax_aload_n hC 8 dX3_find_180 rfl rfl ?_
                refine ax_getf (v := .int (nI (o2015 + 1))) hC o2016o iX3 rfl 1 (by decide) (by decide +kernel) rfl rfl dX3_find_181 ?_
                refine ax_iret hC hr hlocks dX3_find_184 ?_
                exact ⟨rfl, fun q hq => ((fr2014 q (by omega)).trans (hfr q hq)), hS2020, o2016.S, Or.inr ⟨⟨o2015, o2017, rfl⟩, okw_no hwF hwG hx hy hJ (List.mem_of_getElem? hk) hu1 hv1 (fun ok => c2008 ok.1)⟩⟩
            · refine ax_aload_n hC 7 dX3_find_89 rfl rfl ?_
              refine ax_iload hC 2 dX3_find_90 rfl ?_
              refine ax_callVp (st := []) hC [.int (nI u)] hFX.1 rfl (c_X7_sortOf l D z B lo _ hX aF _ TF (nI u) hFX hwF.1) (cwV 1 hC.1.2.2.2.2 gX3_find_X7_sortOf rfl rfl rfl (by decide +kernel) ⟨Nat.le_of_ble_eq_true rfl, Nat.le_of_ble_eq_true rfl⟩) rfl rfl (Nat.le_of_ble_eq_true rfl) dX3_find_92 ⟨Nat.le_of_ble_eq_true rfl, Nat.le_of_ble_eq_true rfl⟩ (fun r2021 er2022 => ?_)
              subst er2022
              refine ax_eqi (y := pS TF u) (rd_nat hu1 (by omega)) ?_
              refine ax_bipush (v := 40) hC dX3_find_95 (by decide) ?_
              refine ax_icmp_ne (tgt := 167) hC dX3_find_97 (by decide) (fun c2023 => ?_) (fun c2023 => ?_)
              · refine ax_iload hC 0 dX3_find_167 rfl ?_
                refine ax_if_eq (tgt := 185) hC dX3_find_169 (by decide) (fun c2024 => ?_) (fun c2024 => ?_)
                · have hp0 := c2008
                  have hok : okw TF TG u v := ⟨hp0, fun q => absurd q c2023⟩
                  refine ax_aload_n hC 8 dX3_find_185 rfl rfl ?_
                  refine ax_aload_n hC 7 dX3_find_186 rfl rfl ?_
                  refine ax_iload hC 2 dX3_find_187 rfl ?_
                  refine ax_aload_n hC 5 dX3_find_189 rfl rfl ?_
                  refine ax_iload hC 1 dX3_find_190 rfl ?_
                  refine ax_iload hC 3 dX3_find_192 rfl ?_
                  refine ax_callVv (st := []) hC [.ref aF, .int (nI u), .ref aG, .int (nI v), .int (nI k)] q0 rfl (c_X3_follow l D z B lo _ hX hn cm aF aG u v _ (nI k) _ _ _ TF TG hHX2 hFX hGX hwF hwG hu1 hv1 (plh_0.mp hp0).1 (by omega) (by omega)) (cwV 5 hC.1.2.2.2.2 gX3_find_X3_follow rfl rfl rfl (by decide +kernel) ⟨Nat.le_of_ble_eq_true rfl, Nat.le_of_ble_eq_true rfl⟩) rfl rfl (Nat.le_of_ble_eq_true rfl) dX3_find_194 ⟨Nat.le_of_ble_eq_true rfl, Nat.le_of_ble_eq_true rfl⟩ (fun hi2025 h2026 hp2027 => ?_)
                  obtain ⟨ei2028, fr2029, o2030⟩ := hp2027
                  replace ei2028 := ei2028.symm
                  subst ei2028
                  have hp_2031 : PrC z h2026 aF _ TF := hFX.kept (fun q _ _ => fr2029 q (by omega))
                  have hp_2032 : PrC z h2026 aG _ TG := hGX.kept (fun q _ _ => fr2029 q (by omega))
                  have hS2033 := CmpS.kept (h' := h2026) hSX (fun q _ _ => fr2029 q (by omega))
                  obtain ⟨_, _, _, hS2033o, -⟩ := id hS2033
                  obtain ⟨_, _, _, _, _, o2030o, -⟩ := id o2030
                  refine ax_iinc (v := (nI k) + 1) hC 3 [(5, .int ((nI k) + 1)), (8, .int (plh TF TG u v)), (7, .int (nI v)), (6, .int (nI u)), (4, .int (nI y)), (3, .ref aG), (2, .int (nI x)), (1, .ref aF), (0, .ref hn)] dX3_find_197 rfl rfl (by decide) rfl ?_
                  refine ax_goto (tgt := 30) hC dX3_find_200 (by decide) ?_
                  refine ax_locals [0, 4, 5, 6, 7, 8] (L' := [(5, .int ((nI k) + 1)), (4, .int (nI y)), (3, .ref aG), (2, .int (nI x)), (1, .ref aF), (0, .ref hn)]) rfl ?_
                  rw [show (nI k + 1) = nI (k + 1) from nI_1 k]
                  exact ih (k + 1) h2026 _ (by omega) (by have := (pre_lext Ls (fol TF TG u v)).length_le; omega) (fun q hq => ((fr2029 q (by omega)).trans (hfr q hq))) o2030 hS2033 (HJ_step hwF hwG hJ hk hu1 hv1 hok)
                · exact absurd c2008 c2024
              · refine ax_aload_n hC 7 dX3_find_100 rfl rfl ?_
                refine ax_iload hC 2 dX3_find_101 rfl ?_
                refine ax_callVp (st := []) hC [.int (nI u)] hFX.1 rfl (c_X7_kindOf l D z B lo _ hX aF _ TF (nI u) hFX hwF.1) (cwV 1 hC.1.2.2.2.2 gX3_find_X7_kindOf rfl rfl rfl (by decide +kernel) ⟨Nat.le_of_ble_eq_true rfl, Nat.le_of_ble_eq_true rfl⟩) rfl rfl (Nat.le_of_ble_eq_true rfl) dX3_find_103 ⟨Nat.le_of_ble_eq_true rfl, Nat.le_of_ble_eq_true rfl⟩ (fun r2035 er2036 => ?_)
                subst er2036
                refine ax_eqi (y := pK TF u) (rd_nat hu1 (by omega)) ?_
                refine ax_iconst (v := 1) hC dX3_find_106 (by decide) ?_
                refine ax_icmp_ne (tgt := 135) hC dX3_find_107 (by decide) (fun c2037 => ?_) (fun c2037 => ?_)
                · refine ax_aload_n hC 8 dX3_find_135 rfl rfl ?_
                  refine ax_getf (v := .ref cm) hC q0 iX3 rfl 2 (by decide) (by decide +kernel) rfl rfl dX3_find_136 ?_
                  refine ax_aload_n hC 7 dX3_find_139 rfl rfl ?_
                  refine ax_aload_n hC 7 dX3_find_140 rfl rfl ?_
                  refine ax_iload hC 2 dX3_find_141 rfl ?_
                  refine ax_callVp (st := [.ref aF, .ref cm]) hC [.int (nI u)] hFX.1 rfl (c_X7_innerOf l D z B lo _ hX aF _ TF (nI u) hFX hwF.1) (cwV 1 hC.1.2.2.2.2 gX3_find_X7_innerOf rfl rfl rfl (by decide +kernel) ⟨Nat.le_of_ble_eq_true rfl, Nat.le_of_ble_eq_true rfl⟩) rfl rfl (Nat.le_of_ble_eq_true rfl) dX3_find_143 ⟨Nat.le_of_ble_eq_true rfl, Nat.le_of_ble_eq_true rfl⟩ (fun r2038 er2039 => ?_)
                  subst er2039
                  refine ax_eqi (y := nI (inn TF u)) ((sN_eq hwF _).1) ?_
                  refine ax_aload_n hC 5 dX3_find_146 rfl rfl ?_
                  refine ax_aload_n hC 5 dX3_find_147 rfl rfl ?_
                  refine ax_iload hC 1 dX3_find_148 rfl ?_
                  refine ax_callVp (st := [.ref aG, .int (nI (inn TF u)), .ref aF, .ref cm]) hC [.int (nI v)] hGX.1 rfl (c_X7_innerOf l D z B lo _ hX aG _ TG (nI v) hGX hwG.1) (cwV 1 hC.1.2.2.2.2 gX3_find_X7_innerOf rfl rfl rfl (by decide +kernel) ⟨Nat.le_of_ble_eq_true rfl, Nat.le_of_ble_eq_true rfl⟩) rfl rfl (Nat.le_of_ble_eq_true rfl) dX3_find_150 ⟨Nat.le_of_ble_eq_true rfl, Nat.le_of_ble_eq_true rfl⟩ (fun r2040 er2041 => ?_)
                  subst er2041
                  refine ax_eqi (y := nI (inn TG v)) ((sN_eq hwG _).1) ?_
                  refine ax_iconst (v := 0) hC dX3_find_153 (by decide) ?_
                  refine ax_callVi (st := []) hC [.ref aF, .int (nI (inn TF u)), .ref aG, .int (nI (inn TG v)), .int 0] hSo rfl (c_X1_holds l D z B lo _ hX cm aF aG (inn TF u) (inn TG v) _ _ TF TG hSX hFX hGX hwF hwG (sN_eq hwF _).2 (sN_eq hwG _).2 (by omega) (by omega)) (cwV 5 hC.1.2.2.2.2 gX3_find_X1_holds rfl rfl rfl (by decide +kernel) ⟨Nat.le_of_ble_eq_true rfl, Nat.le_of_ble_eq_true rfl⟩) rfl rfl (Nat.le_of_ble_eq_true rfl) dX3_find_154 ⟨Nat.le_of_ble_eq_true rfl, Nat.le_of_ble_eq_true rfl⟩ (fun r2042 hi2043 h2044 hp2045 => ?_)
                  obtain ⟨ei2046, fr2047, o2048, o2049⟩ := hp2045
                  replace ei2046 := ei2046.symm
                  subst ei2046
                  have hp_2050 : PrC z h2044 aF _ TF := hFX.kept (fun q _ _ => fr2047 q (by omega))
                  have hp_2051 : PrC z h2044 aG _ TG := hGX.kept (fun q _ _ => fr2047 q (by omega))
                  have hH2052 := HinL.kept (h' := h2044) hHX2 (fun q _ _ => fr2047 q (by omega))
                  obtain ⟨_, _, _, _, _, hH2052o, -⟩ := id hH2052
                  obtain ⟨_, _, _, o2048o, -⟩ := id o2048
                  rcases o2049 with ⟨rr, hfit⟩ | ⟨rr, hnofit⟩
                  · subst rr
                    refine ax_istore hC [(9, .int 1), (8, .int (plh TF TG u v)), (7, .int (nI v)), (6, .int (nI u)), (5, .int (nI k)), (4, .int (nI y)), (3, .ref aG), (2, .int (nI x)), (1, .ref aF), (0, .ref hn)] dX3_find_157 (by decide) rfl ?_
                    refine ax_iload hC 0 dX3_find_159 rfl ?_
                    refine ax_if_ne (tgt := 167) hC dX3_find_161 (by decide) (fun c2053 => ?_) (fun c2053 => ?_)
                    · refine ax_iload hC 1 dX3_find_167 rfl ?_
                      refine ax_if_eq (tgt := 185) hC dX3_find_169 (by decide) (fun c2054 => ?_) (fun c2054 => ?_)
                      · have hp0 := c2008
                        have hok : okw TF TG u v := ⟨hp0, fun _ => ⟨fun q => absurd q c2037, fun q => hfit⟩⟩
                        refine ax_aload_n hC 9 dX3_find_185 rfl rfl ?_
                        refine ax_aload_n hC 8 dX3_find_186 rfl rfl ?_
                        refine ax_iload hC 3 dX3_find_187 rfl ?_
                        refine ax_aload_n hC 6 dX3_find_189 rfl rfl ?_
                        refine ax_iload hC 2 dX3_find_190 rfl ?_
                        refine ax_iload hC 4 dX3_find_192 rfl ?_
                        refine ax_callVv (st := []) hC [.ref aF, .int (nI u), .ref aG, .int (nI v), .int (nI k)] hH2052o rfl (c_X3_follow l D z B lo _ h2044 hn cm aF aG u v _ (nI k) _ _ _ TF TG hH2052 hp_2050 hp_2051 hwF hwG hu1 hv1 (plh_0.mp hp0).1 (by omega) (by omega)) (cwV 5 hC.1.2.2.2.2 gX3_find_X3_follow rfl rfl rfl (by decide +kernel) ⟨Nat.le_of_ble_eq_true rfl, Nat.le_of_ble_eq_true rfl⟩) rfl rfl (Nat.le_of_ble_eq_true rfl) dX3_find_194 ⟨Nat.le_of_ble_eq_true rfl, Nat.le_of_ble_eq_true rfl⟩ (fun hi2055 h2056 hp2057 => ?_)
                        obtain ⟨ei2058, fr2059, o2060⟩ := hp2057
                        replace ei2058 := ei2058.symm
                        subst ei2058
                        have hp_2061 : PrC z h2056 aF _ TF := hp_2050.kept (fun q _ _ => fr2059 q (by omega))
                        have hp_2062 : PrC z h2056 aG _ TG := hp_2051.kept (fun q _ _ => fr2059 q (by omega))
                        have hS2063 := CmpS.kept (h' := h2056) o2048 (fun q _ _ => fr2059 q (by omega))
                        obtain ⟨_, _, _, hS2063o, -⟩ := id hS2063
                        obtain ⟨_, _, _, _, _, o2060o, -⟩ := id o2060
                        refine ax_iinc (v := (nI k) + 1) hC 4 [(5, .int ((nI k) + 1)), (9, .int 1), (8, .int (plh TF TG u v)), (7, .int (nI v)), (6, .int (nI u)), (4, .int (nI y)), (3, .ref aG), (2, .int (nI x)), (1, .ref aF), (0, .ref hn)] dX3_find_197 rfl rfl (by decide) rfl ?_
                        refine ax_goto (tgt := 30) hC dX3_find_200 (by decide) ?_
                        refine ax_locals [0, 5, 6, 7, 8, 9] (L' := [(5, .int ((nI k) + 1)), (4, .int (nI y)), (3, .ref aG), (2, .int (nI x)), (1, .ref aF), (0, .ref hn)]) rfl ?_
                        rw [show (nI k + 1) = nI (k + 1) from nI_1 k]
                        exact ih (k + 1) h2056 _ (by omega) (by have := (pre_lext Ls (fol TF TG u v)).length_le; omega) (fun q hq => ((fr2059 q (by omega)).trans ((fr2047 q (by omega)).trans (hfr q hq)))) o2060 hS2063 (HJ_step hwF hwG hJ hk hu1 hv1 hok)
                      · exact absurd c2008 c2054
                    · exact absurd c2053 (by decide)
                  · subst rr
                    refine ax_istore hC [(9, .int 0), (8, .int (plh TF TG u v)), (7, .int (nI v)), (6, .int (nI u)), (5, .int (nI k)), (4, .int (nI y)), (3, .ref aG), (2, .int (nI x)), (1, .ref aF), (0, .ref hn)] dX3_find_157 (by decide) rfl ?_
                    refine ax_iload hC 0 dX3_find_159 rfl ?_
                    refine ax_if_ne (tgt := 167) hC dX3_find_161 (by decide) (fun c2065 => ?_) (fun c2065 => ?_)
                    · exact absurd c2065 (by decide)
                    · refine ax_iconst (v := 2) hC dX3_find_164 (by decide) ?_
                      refine ax_istore hC [(8, .int 2), (9, .int 0), (7, .int (nI v)), (6, .int (nI u)), (5, .int (nI k)), (4, .int (nI y)), (3, .ref aG), (2, .int (nI x)), (1, .ref aF), (0, .ref hn)] dX3_find_165 (by decide) rfl ?_
                      refine ax_iload hC 0 dX3_find_167 rfl ?_
                      refine ax_if_eq (tgt := 185) hC dX3_find_169 (by decide) (fun c2066 => ?_) (fun c2066 => ?_)
                      · exact absurd c2066 (by decide)
                      · refine ax_aload_n hC 9 dX3_find_172 rfl rfl ?_
                        refine ax_iload hC 4 dX3_find_173 rfl ?_
                        refine ax_iload hC 0 dX3_find_175 rfl ?_
                        refine ax_callVv (st := []) hC [.int (nI k), .int 2] hH2052o rfl (c_X3_write l D z B lo _ h2044 hn cm _ (nI k) 2 _ hH2052) (cwV 2 hC.1.2.2.2.2 gX3_find_X3_write rfl rfl rfl (by decide +kernel) ⟨Nat.le_of_ble_eq_true rfl, Nat.le_of_ble_eq_true rfl⟩) rfl rfl (Nat.le_of_ble_eq_true rfl) dX3_find_177 ⟨Nat.le_of_ble_eq_true rfl, Nat.le_of_ble_eq_true rfl⟩ (fun hi2067 h2068 hp2069 => ?_)
                        obtain ⟨ei2070, fr2071, o2072, o2073, o2074⟩ := hp2069
                        replace ei2070 := ei2070.symm
                        subst ei2070
                        have hp_2075 : PrC z h2068 aF _ TF := hp_2050.kept (fun q _ _ => fr2071 q (by omega))
                        have hp_2076 : PrC z h2068 aG _ TG := hp_2051.kept (fun q _ _ => fr2071 q (by omega))
                        have hS2077 := CmpS.kept (h' := h2068) o2048 (fun q _ _ => fr2071 q (by omega))
                        obtain ⟨_, _, _, hS2077o, -⟩ := id hS2077
                        obtain ⟨_, _, _, _, _, o2073o, -⟩ := id o2073
                        refine ax_aload_n hC 9 dX3_find_180 rfl rfl ?_
                        refine ax_getf (v := .int (nI (o2072 + 1))) hC o2073o iX3 rfl 1 (by decide) (by decide +kernel) rfl rfl dX3_find_181 ?_
                        refine ax_iret hC hr hlocks dX3_find_184 ?_
                        exact ⟨rfl, fun q hq => ((fr2071 q (by omega)).trans ((fr2047 q (by omega)).trans (hfr q hq))), hS2077, o2073.S, Or.inr ⟨⟨o2072, o2074, rfl⟩, okw_no hwF hwG hx hy hJ (List.mem_of_getElem? hk) hu1 hv1 (fun ok => hnofit ((ok.2 c2023).2 c2037))⟩⟩
                · refine ax_aload_n hC 8 dX3_find_110 rfl rfl ?_
                  refine ax_getf (v := .ref cm) hC q0 iX3 rfl 2 (by decide) (by decide +kernel) rfl rfl dX3_find_111 ?_
                  refine ax_aload_n hC 5 dX3_find_114 rfl rfl ?_
                  refine ax_aload_n hC 5 dX3_find_115 rfl rfl ?_
                  refine ax_iload hC 1 dX3_find_116 rfl ?_
                  refine ax_callVp (st := [.ref aG, .ref cm]) hC [.int (nI v)] hGX.1 rfl (c_X7_innerOf l D z B lo _ hX aG _ TG (nI v) hGX hwG.1) (cwV 1 hC.1.2.2.2.2 gX3_find_X7_innerOf rfl rfl rfl (by decide +kernel) ⟨Nat.le_of_ble_eq_true rfl, Nat.le_of_ble_eq_true rfl⟩) rfl rfl (Nat.le_of_ble_eq_true rfl) dX3_find_118 ⟨Nat.le_of_ble_eq_true rfl, Nat.le_of_ble_eq_true rfl⟩ (fun r2078 er2079 => ?_)
                  subst er2079
                  refine ax_eqi (y := nI (inn TG v)) ((sN_eq hwG _).1) ?_
                  refine ax_aload_n hC 7 dX3_find_121 rfl rfl ?_
                  refine ax_aload_n hC 7 dX3_find_122 rfl rfl ?_
                  refine ax_iload hC 2 dX3_find_123 rfl ?_
                  refine ax_callVp (st := [.ref aF, .int (nI (inn TG v)), .ref aG, .ref cm]) hC [.int (nI u)] hFX.1 rfl (c_X7_innerOf l D z B lo _ hX aF _ TF (nI u) hFX hwF.1) (cwV 1 hC.1.2.2.2.2 gX3_find_X7_innerOf rfl rfl rfl (by decide +kernel) ⟨Nat.le_of_ble_eq_true rfl, Nat.le_of_ble_eq_true rfl⟩) rfl rfl (Nat.le_of_ble_eq_true rfl) dX3_find_125 ⟨Nat.le_of_ble_eq_true rfl, Nat.le_of_ble_eq_true rfl⟩ (fun r2080 er2081 => ?_)
                  subst er2081
                  refine ax_eqi (y := nI (inn TF u)) ((sN_eq hwF _).1) ?_
                  refine ax_iconst (v := 0) hC dX3_find_128 (by decide) ?_
                  refine ax_callVi (st := []) hC [.ref aG, .int (nI (inn TG v)), .ref aF, .int (nI (inn TF u)), .int 0] hSo rfl (c_X1_holds l D z B lo _ hX cm aG aF (inn TG v) (inn TF u) _ _ TG TF hSX hGX hFX hwG hwF (sN_eq hwG _).2 (sN_eq hwF _).2 (by omega) (by omega)) (cwV 5 hC.1.2.2.2.2 gX3_find_X1_holds rfl rfl rfl (by decide +kernel) ⟨Nat.le_of_ble_eq_true rfl, Nat.le_of_ble_eq_true rfl⟩) rfl rfl (Nat.le_of_ble_eq_true rfl) dX3_find_129 ⟨Nat.le_of_ble_eq_true rfl, Nat.le_of_ble_eq_true rfl⟩ (fun r2082 hi2083 h2084 hp2085 => ?_)
                  obtain ⟨ei2086, fr2087, o2088, o2089⟩ := hp2085
                  replace ei2086 := ei2086.symm
                  subst ei2086
                  have hp_2090 : PrC z h2084 aF _ TF := hFX.kept (fun q _ _ => fr2087 q (by omega))
                  have hp_2091 : PrC z h2084 aG _ TG := hGX.kept (fun q _ _ => fr2087 q (by omega))
                  have hH2092 := HinL.kept (h' := h2084) hHX2 (fun q _ _ => fr2087 q (by omega))
                  obtain ⟨_, _, _, _, _, hH2092o, -⟩ := id hH2092
                  obtain ⟨_, _, _, o2088o, -⟩ := id o2088
                  rcases o2089 with ⟨rr, hfit⟩ | ⟨rr, hnofit⟩
                  · subst rr
                    refine ax_goto (tgt := 157) hC dX3_find_132 (by decide) ?_
                    refine ax_istore hC [(9, .int 1), (8, .int (plh TF TG u v)), (7, .int (nI v)), (6, .int (nI u)), (5, .int (nI k)), (4, .int (nI y)), (3, .ref aG), (2, .int (nI x)), (1, .ref aF), (0, .ref hn)] dX3_find_157 (by decide) rfl ?_
                    refine ax_iload hC 0 dX3_find_159 rfl ?_
                    refine ax_if_ne (tgt := 167) hC dX3_find_161 (by decide) (fun c2093 => ?_) (fun c2093 => ?_)
                    · refine ax_iload hC 1 dX3_find_167 rfl ?_
                      refine ax_if_eq (tgt := 185) hC dX3_find_169 (by decide) (fun c2094 => ?_) (fun c2094 => ?_)
                      · have hp0 := c2008
                        have hok : okw TF TG u v := ⟨hp0, fun _ => ⟨fun q => hfit, fun q => absurd c2037 q⟩⟩
                        refine ax_aload_n hC 9 dX3_find_185 rfl rfl ?_
                        refine ax_aload_n hC 8 dX3_find_186 rfl rfl ?_
                        refine ax_iload hC 3 dX3_find_187 rfl ?_
                        refine ax_aload_n hC 6 dX3_find_189 rfl rfl ?_
                        refine ax_iload hC 2 dX3_find_190 rfl ?_
                        refine ax_iload hC 4 dX3_find_192 rfl ?_
                        refine ax_callVv (st := []) hC [.ref aF, .int (nI u), .ref aG, .int (nI v), .int (nI k)] hH2092o rfl (c_X3_follow l D z B lo _ h2084 hn cm aF aG u v _ (nI k) _ _ _ TF TG hH2092 hp_2090 hp_2091 hwF hwG hu1 hv1 (plh_0.mp hp0).1 (by omega) (by omega)) (cwV 5 hC.1.2.2.2.2 gX3_find_X3_follow rfl rfl rfl (by decide +kernel) ⟨Nat.le_of_ble_eq_true rfl, Nat.le_of_ble_eq_true rfl⟩) rfl rfl (Nat.le_of_ble_eq_true rfl) dX3_find_194 ⟨Nat.le_of_ble_eq_true rfl, Nat.le_of_ble_eq_true rfl⟩ (fun hi2095 h2096 hp2097 => ?_)
                        obtain ⟨ei2098, fr2099, o2100⟩ := hp2097
                        replace ei2098 := ei2098.symm
                        subst ei2098
                        have hp_2101 : PrC z h2096 aF _ TF := hp_2090.kept (fun q _ _ => fr2099 q (by omega))
                        have hp_2102 : PrC z h2096 aG _ TG := hp_2091.kept (fun q _ _ => fr2099 q (by omega))
                        have hS2103 := CmpS.kept (h' := h2096) o2088 (fun q _ _ => fr2099 q (by omega))
                        obtain ⟨_, _, _, hS2103o, -⟩ := id hS2103
                        obtain ⟨_, _, _, _, _, o2100o, -⟩ := id o2100
                        refine ax_iinc (v := (nI k) + 1) hC 4 [(5, .int ((nI k) + 1)), (9, .int 1), (8, .int (plh TF TG u v)), (7, .int (nI v)), (6, .int (nI u)), (4, .int (nI y)), (3, .ref aG), (2, .int (nI x)), (1, .ref aF), (0, .ref hn)] dX3_find_197 rfl rfl (by decide) rfl ?_
                        refine ax_goto (tgt := 30) hC dX3_find_200 (by decide) ?_
                        refine ax_locals [0, 5, 6, 7, 8, 9] (L' := [(5, .int ((nI k) + 1)), (4, .int (nI y)), (3, .ref aG), (2, .int (nI x)), (1, .ref aF), (0, .ref hn)]) rfl ?_
                        rw [show (nI k + 1) = nI (k + 1) from nI_1 k]
                        exact ih (k + 1) h2096 _ (by omega) (by have := (pre_lext Ls (fol TF TG u v)).length_le; omega) (fun q hq => ((fr2099 q (by omega)).trans ((fr2087 q (by omega)).trans (hfr q hq)))) o2100 hS2103 (HJ_step hwF hwG hJ hk hu1 hv1 hok)
                      · exact absurd c2008 c2094
                    · exact absurd c2093 (by decide)
                  · subst rr
                    refine ax_goto (tgt := 157) hC dX3_find_132 (by decide) ?_
                    refine ax_istore hC [(9, .int 0), (8, .int (plh TF TG u v)), (7, .int (nI v)), (6, .int (nI u)), (5, .int (nI k)), (4, .int (nI y)), (3, .ref aG), (2, .int (nI x)), (1, .ref aF), (0, .ref hn)] dX3_find_157 (by decide) rfl ?_
                    refine ax_iload hC 0 dX3_find_159 rfl ?_
                    refine ax_if_ne (tgt := 167) hC dX3_find_161 (by decide) (fun c2105 => ?_) (fun c2105 => ?_)
                    · exact absurd c2105 (by decide)
                    · refine ax_iconst (v := 2) hC dX3_find_164 (by decide) ?_
                      refine ax_istore hC [(8, .int 2), (9, .int 0), (7, .int (nI v)), (6, .int (nI u)), (5, .int (nI k)), (4, .int (nI y)), (3, .ref aG), (2, .int (nI x)), (1, .ref aF), (0, .ref hn)] dX3_find_165 (by decide) rfl ?_
                      refine ax_iload hC 0 dX3_find_167 rfl ?_
                      refine ax_if_eq (tgt := 185) hC dX3_find_169 (by decide) (fun c2106 => ?_) (fun c2106 => ?_)
                      · exact absurd c2106 (by decide)
                      · refine ax_aload_n hC 9 dX3_find_172 rfl rfl ?_
                        refine ax_iload hC 4 dX3_find_173 rfl ?_
                        refine ax_iload hC 0 dX3_find_175 rfl ?_
                        refine ax_callVv (st := []) hC [.int (nI k), .int 2] hH2092o rfl (c_X3_write l D z B lo _ h2084 hn cm _ (nI k) 2 _ hH2092) (cwV 2 hC.1.2.2.2.2 gX3_find_X3_write rfl rfl rfl (by decide +kernel) ⟨Nat.le_of_ble_eq_true rfl, Nat.le_of_ble_eq_true rfl⟩) rfl rfl (Nat.le_of_ble_eq_true rfl) dX3_find_177 ⟨Nat.le_of_ble_eq_true rfl, Nat.le_of_ble_eq_true rfl⟩ (fun hi2107 h2108 hp2109 => ?_)
                        obtain ⟨ei2110, fr2111, o2112, o2113, o2114⟩ := hp2109
                        replace ei2110 := ei2110.symm
                        subst ei2110
                        have hp_2115 : PrC z h2108 aF _ TF := hp_2090.kept (fun q _ _ => fr2111 q (by omega))
                        have hp_2116 : PrC z h2108 aG _ TG := hp_2091.kept (fun q _ _ => fr2111 q (by omega))
                        have hS2117 := CmpS.kept (h' := h2108) o2088 (fun q _ _ => fr2111 q (by omega))
                        obtain ⟨_, _, _, hS2117o, -⟩ := id hS2117
                        obtain ⟨_, _, _, _, _, o2113o, -⟩ := id o2113
                        refine ax_aload_n hC 9 dX3_find_180 rfl rfl ?_
                        refine ax_getf (v := .int (nI (o2112 + 1))) hC o2113o iX3 rfl 1 (by decide) (by decide +kernel) rfl rfl dX3_find_181 ?_
                        refine ax_iret hC hr hlocks dX3_find_184 ?_
                        exact ⟨rfl, fun q hq => ((fr2111 q (by omega)).trans ((fr2087 q (by omega)).trans (hfr q hq))), hS2117, o2113.S, Or.inr ⟨⟨o2112, o2114, rfl⟩, okw_no hwF hwG hx hy hJ (List.mem_of_getElem? hk) hu1 hv1 (fun ok => hnofit ((ok.2 c2023).1 c2037))⟩⟩
  refine ax_aload_n hC 0 dX3_find_0 rfl rfl ?_
  refine ax_getf (v := .ref (hn + 2)) hC q0 iX3 rfl 3 (by decide) (by decide +kernel) rfl rfl dX3_find_1 ?_
  refine ax_lconst (v := 0) hC dX3_find_4 (by decide) ?_
  refine ax_callSv (st := []) hC [.ref (hn + 2), .long 0] (c_J7_fill_d0a16 l D z B lo _ h (hn + 2) 60 seen 0 q2 (by decide)) (va_cwS 2 hC.1.2.2.2.2 gX3_find_J7_fill_d0a16 rfl rfl rfl (by decide +kernel) ⟨Nat.le_of_ble_eq_true rfl, Nat.le_of_ble_eq_true rfl⟩) rfl rfl (Nat.le_of_ble_eq_true rfl) dX3_find_5 ⟨Nat.le_of_ble_eq_true rfl, Nat.le_of_ble_eq_true rfl⟩ (fun hi1 h2 hp3 => ?_)
  obtain ⟨ei4, fr5, g6, e7, hz8⟩ := hp3
  replace ei4 := ei4.symm
  subst ei4
  have x9 : h2 hn = some (.inr (5, [.ref (hn + 1), .int len0, .ref cm, .ref (hn + 2), .ref (hn + 3), .ref (hn + 4), .ref (hn + 5), .int fnd0])) := (fr5 _ (by omega)).trans q0
  have x10 : h2 (hn + 1) = some (.inl (z 1, 3601, .inl (tx))) := (fr5 _ (by omega)).trans q1
  have x11 : h2 (hn + 3) = some (.inl (z 1, 3600, .inl (pr))) := (fr5 _ (by omega)).trans q3
  have x12 : h2 (hn + 4) = some (.inl (z 1, 3600, .inl (fm))) := (fr5 _ (by omega)).trans q4
  have x13 : h2 (hn + 5) = some (.inl (z 1, 3600, .inl (sp))) := (fr5 _ (by omega)).trans q5
  have hp_14 : PrC z h2 aF _ TF := hF.kept (fun q _ _ => fr5 q (by omega))
  have hp_15 : PrC z h2 aG _ TG := hG.kept (fun q _ _ => fr5 q (by omega))
  refine ax_aload_n hC 0 dX3_find_8 rfl rfl ?_
  refine ax_iconst (v := 0) hC dX3_find_9 (by decide) ?_
  refine ax_putf (v := .int 0) (ty := .int) hC tyX3 x9 iX3 tyX3_ok nmX3 rfl 7 (by decide) (by decide +kernel) rfl rfl (by decide +kernel) (rfl) rfl (Nat.le_of_ble_eq_true rfl) dX3_find_10 (fun h16 e17 f18 => ?_)
  have e17 : h16 hn = some (.inr (5, [.ref (hn + 1), .int len0, .ref cm, .ref (hn + 2), .ref (hn + 3), .ref (hn + 4), .ref (hn + 5), .int 0])) := e17
  have x19 : h16 (hn + 1) = some (.inl (z 1, 3601, .inl (tx))) := (f18 _ (by omega)).trans x10
  have x20 : h16 (hn + 3) = some (.inl (z 1, 3600, .inl (pr))) := (f18 _ (by omega)).trans x11
  have x21 : h16 (hn + 4) = some (.inl (z 1, 3600, .inl (fm))) := (f18 _ (by omega)).trans x12
  have x22 : h16 (hn + 5) = some (.inl (z 1, 3600, .inl (sp))) := (f18 _ (by omega)).trans x13
  have x23 : h16 (hn + 2) = some (.inl (z 2, 60, .inr (.inl (g6)))) := (f18 _ (by omega)).trans e7
  have hp_24 : PrC z h16 aF _ TF := hp_14.kept (fun q _ _ => f18 q (by omega))
  have hp_25 : PrC z h16 aG _ TG := hp_15.kept (fun q _ _ => f18 q (by omega))
  refine ax_aload_n hC 0 dX3_find_13 rfl rfl ?_
  refine ax_iconst (v := 0) hC dX3_find_14 (by decide) ?_
  refine ax_putf (v := .int 0) (ty := .int) hC tyX3 e17 iX3 tyX3_ok nmX3 rfl 1 (by decide) (by decide +kernel) rfl rfl (by decide +kernel) (rfl) rfl (Nat.le_of_ble_eq_true rfl) dX3_find_15 (fun h26 e27 f28 => ?_)
  have e27 : h26 hn = some (.inr (5, [.ref (hn + 1), .int 0, .ref cm, .ref (hn + 2), .ref (hn + 3), .ref (hn + 4), .ref (hn + 5), .int 0])) := e27
  have x29 : h26 (hn + 1) = some (.inl (z 1, 3601, .inl (tx))) := (f28 _ (by omega)).trans x19
  have x30 : h26 (hn + 3) = some (.inl (z 1, 3600, .inl (pr))) := (f28 _ (by omega)).trans x20
  have x31 : h26 (hn + 4) = some (.inl (z 1, 3600, .inl (fm))) := (f28 _ (by omega)).trans x21
  have x32 : h26 (hn + 5) = some (.inl (z 1, 3600, .inl (sp))) := (f28 _ (by omega)).trans x22
  have x33 : h26 (hn + 2) = some (.inl (z 2, 60, .inr (.inl (g6)))) := (f28 _ (by omega)).trans x23
  have hp_34 : PrC z h26 aF _ TF := hp_24.kept (fun q _ _ => f28 q (by omega))
  have hp_35 : PrC z h26 aG _ TG := hp_25.kept (fun q _ _ => f28 q (by omega))
  have hL0 : HinL z h26 hn cm 0 [] := ⟨_, _, _, _, _, e27, x29, x33, x30, x31, x32, List.nodup_nil, by simp, by simp, fun r v hr2 hv2 => by rw [hz8 r hr2]; simp [lb_zero]⟩
  refine ax_aload_n hC 0 dX3_find_18 rfl rfl ?_
  refine ax_iload_n hC 2 dX3_find_19 rfl rfl ?_
  refine ax_iload hC 4 dX3_find_20 rfl ?_
  refine ax_iconst (v := (-1)) hC dX3_find_22 (by decide) ?_
  refine ax_iconst (v := 0) hC dX3_find_23 (by decide) ?_
  refine ax_callVv (st := []) hC [.int (nI x), .int (nI y), .int (-1), .int 0] e27 rfl (c_X3_add l D z B lo _ h26 hn cm x y _ (-1) 0 _ hL0 (by omega) (by omega)) (cwV 4 hC.1.2.2.2.2 gX3_find_X3_add rfl rfl rfl (by decide +kernel) ⟨Nat.le_of_ble_eq_true rfl, Nat.le_of_ble_eq_true rfl⟩) rfl rfl (Nat.le_of_ble_eq_true rfl) dX3_find_24 ⟨Nat.le_of_ble_eq_true rfl, Nat.le_of_ble_eq_true rfl⟩ (fun hi36 h37 hp38 => ?_)
  obtain ⟨ei39, fr40, hL41⟩ := hp38
  replace ei39 := ei39.symm
  subst ei39
  obtain ⟨_, _, _, _, _, hL41o, -⟩ := id hL41
  have hp_42 : PrC z h37 aF _ TF := hp_34.kept (fun q _ _ => fr40 q (by omega))
  have hp_43 : PrC z h37 aG _ TG := hp_35.kept (fun q _ _ => fr40 q (by omega))
  refine ax_iconst (v := 0) hC dX3_find_27 (by decide) ?_
  refine ax_istore hC [(5, .int 0), (0, .ref hn), (1, .ref aF), (2, .int (nI x)), (3, .ref aG), (4, .int (nI y))] dX3_find_28 (by decide) rfl ?_
  refine ax_locals [0, 5, 4, 3, 2, 1] (L' := [(5, .int 0), (4, .int (nI y)), (3, .ref aG), (2, .int (nI x)), (1, .ref aF), (0, .ref hn)]) rfl ?_
  have e1 : ladd [] (60 * x + y) = [60 * x + y] := by simp [ladd]
  rw [e1] at hL41
  have hSX := CmpS.kept (h' := h37) hS (fun q _ _ => ( ((fr40 q (by omega)).trans ((f28 q (by omega)).trans ((f18 q (by omega)).trans (fr5 q (by omega)))))))
  exact LP 3600 0 h37 [60 * x + y] (by omega) (by simp) (fun q hq => ( ((fr40 q (by omega)).trans ((f28 q (by omega)).trans ((f18 q (by omega)).trans (fr5 q (by omega))))))) hL41 hSX ⟨by simp, fun c hc => by simp at hc; subst hc; exact ⟨x, y, rfl, hx, hy⟩, fun W w0 hW c hc => by simp at hc; subst hc; exact w0, fun j hj => absurd hj (by omega)⟩
