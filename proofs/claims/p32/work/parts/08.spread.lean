theorem lfit_eq {k : Int32} {n q : Nat} (hn : n ≤ 3) (hq : q ≤ 3) : lfit k (nI (2 ^ n - 1)) (nI (2 ^ q - 1)) = 1 ↔ (if k = 3 then n ≤ q else q ≤ n) := by
  unfold lfit
  by_cases hk : k = 3
  · rw [if_pos hk, if_pos hk]
    have := lab_fit n hn q hq
    by_cases h : (nI (2 ^ n - 1)) &&& ((nI (2 ^ q - 1)) ^^^ (-1)) = 0
    · rw [if_pos h]; simp [this.mp h]
    · rw [if_neg h]; exact ⟨fun z => absurd z (by decide), fun z => absurd (this.mpr z) h⟩
  · rw [if_neg hk, if_neg hk]
    have := lab_fit q hq n hn
    by_cases h : (nI (2 ^ q - 1)) &&& ((nI (2 ^ n - 1)) ^^^ (-1)) = 0
    · rw [if_pos h]; simp [this.mp h]
    · rw [if_neg h]; exact ⟨fun z => absurd z (by decide), fun z => absurd (this.mpr z) h⟩

abbrev rmX1_spread : Room := { frames := 1, cells := 0, slots := 0, locals := 24 }
set_option maxRecDepth 100000 in
set_option maxHeartbeats 4000000 in
theorem c_X1_spread (l : Launch) (D : va_G) (z : Nat → ClassId) (B : Heap) (lo hi : Nat) (h : Nat → Option va_E) (cm aF aG sd u v : Nat) (ndF ndG : Int32) (TF TG : PT) (Ls : List Nat) (hL : CmpL z h cm Ls) (hF : PrC z h aF ndF TF) (hG : PrC z h aG ndG TG) (hwF : wfP TF) (hwG : wfP TG) (hs : sd < 2) (hu : u < pcap TF) (hv : v < pcap TG) (hdF : cm + 3 ≤ aF) (hdG : cm + 3 ≤ aG) : Met l yX1_spread wsX1_spread rmX1_spread (KP D vwCl B lo hi h (ty6 z) [.ref cm, .ref aF, .int (nI u), .ref aG, .int (nI v), .int (nI sd), .int 0]) (KQi D vwCl B lo (ty6 z) (fun r hi' h' => hi' = hi ∧ (∀ q, (q < cm ∨ cm + 3 ≤ q) → h' q = h q) ∧ ((r = 1 ∧ okp TF TG u v ∧ CmpL z h' cm (lext Ls (sucL TF TG sd u v))) ∨ (r = 0 ∧ ¬ okp TF TG u v ∧ ∃ Ls', CmpL z h' cm Ls')))) 0 0 (fun q => lo ≤ q) := by
  have hwF1 := hwF.1
  have hwG1 := hwG.1
  obtain ⟨seen0, pairs0, hLo, -⟩ := id hL
  refine ax_met (by decide) rfl (Nat.le_of_ble_eq_true rfl) (L0 := [(0, .ref cm), (1, .ref aF), (2, .int (nI u)), (3, .ref aG), (4, .int (nI v)), (5, .int (nI sd)), (6, .int 0)]) rfl ?_
  intro p e s m args below meth c hC hr hlocks hnm hargs
  have LP : ∀ (X : List Nat) (h0 : Nat → Option va_E) (L0 : List Nat), (∀ q, (q < cm ∨ cm + 3 ≤ q) → h0 q = h q) → CmpL z h0 cm L0 → okp TF TG u v → lext Ls (sucL TF TG sd u v) = lext L0 ((List.range (min (nlab TF u) (nlab TG v))).map (fun j => cod sd (stp TF u j) (stp TG v j))) → ∀ (n t : Nat) (hX : Nat → Option va_E), t + n = 26 → (∀ q, (q < cm ∨ cm + 3 ≤ q) → hX q = h0 q) → CmpL z hX cm (lext L0 ((List.range (min t (min (nlab TF u) (nlab TG v)))).map (fun j => cod sd (stp TF u j) (stp TG v j)))) → Gx p l e rmX1_spread s m args below meth c D vwCl B lo 15 (MQ below (KQi D vwCl B lo (ty6 z) (fun r hi' h' => hi' = hi ∧ (∀ q, (q < cm ∨ cm + 3 ≤ q) → h' q = h q) ∧ ((r = 1 ∧ okp TF TG u v ∧ CmpL z h' cm (lext Ls (sucL TF TG sd u v))) ∨ (r = 0 ∧ ¬ okp TF TG u v ∧ ∃ Ls', CmpL z h' cm Ls')))) args s 0 0 (fun q => lo ≤ q)) hi hX 0 0 [(12, .int (nI t)), (11, .int (nI (min t (nlab TG v)))), (10, .int (nI (min t (nlab TF u)))), (9, .int (nI (2 ^ nlab TG v - 1))), (8, .int (nI (2 ^ nlab TF u - 1))), (7, .int (pK TF u)), (6, .int 0), (5, .int (nI sd)), (4, .int (nI v)), (3, .ref aG), (2, .int (nI u)), (1, .ref aF), (0, .ref cm)] 199 [] := by
    intro _ h0 L0 hfr0 hL0 hok hfin n
    have hnF := (nlab_eq hwF hu).2
    have hnG := (nlab_eq hwG hv).2
    induction n with
    | zero =>
      intro t hX htn hfrX hLX
      have hFX : PrC z hX aF _ TF := hF.kept (fun q _ _ => (hfrX q (by omega)).trans (hfr0 q (by omega)))
      have hGX : PrC z hX aG _ TG := hG.kept (fun q _ _ => (hfrX q (by omega)).trans (hfr0 q (by omega)))
      obtain ⟨seenX, pairsX, hLXo, -⟩ := id hLX
      refine ax_iload hC 0 dX1_spread_199 rfl ?_
      refine ax_bipush (v := 26) hC dX1_spread_201 (by decide) ?_
      refine ax_icmp_ge (tgt := 274) hC dX1_spread_203 (by decide) (fun c1001 => ?_) (fun c1001 => ?_)
      · refine ax_iconst (v := 1) hC dX1_spread_274 (by decide) ?_
        refine ax_zret hC hr hlocks dX1_spread_275 (by decide) ?_
        refine ⟨rfl, fun q hq => (hfrX q hq).trans (hfr0 q hq), Or.inl ⟨rfl, hok, ?_⟩⟩
        rw [hfin]; rw [show min t (min (nlab TF u) (nlab TG v)) = min (nlab TF u) (nlab TG v) by omega] at hLX; exact hLX
      · exact absurd (by rw [L_leN (k := 26) (by decide) (by omega)]; omega) c1001
    | succ n ih =>
      intro t hX htn hfrX hLX
      have hFX : PrC z hX aF _ TF := hF.kept (fun q _ _ => (hfrX q (by omega)).trans (hfr0 q (by omega)))
      have hGX : PrC z hX aG _ TG := hG.kept (fun q _ _ => (hfrX q (by omega)).trans (hfr0 q (by omega)))
      obtain ⟨seenX, pairsX, hLXo, -⟩ := id hLX
      by_cases hbF : t < nlab TF u
      · by_cases hbG : t < nlab TG v
        · refine ax_iload hC 0 dX1_spread_199 rfl ?_
          refine ax_bipush (v := 26) hC dX1_spread_201 (by decide) ?_
          refine ax_icmp_ge (tgt := 274) hC dX1_spread_203 (by decide) (fun c2001 => ?_) (fun c2001 => ?_)
          · exact absurd c2001 (by rw [L_leN (k := 26) (by decide) (by omega)]; omega)
          · refine ax_iload hC 4 dX1_spread_206 rfl ?_
            refine ax_iload hC 0 dX1_spread_208 rfl ?_
            refine ax_ishr hC dX1_spread_210 ?_
            refine ax_iconst (v := 1) hC dX1_spread_211 (by decide) ?_
            refine ax_iand hC dX1_spread_212 ?_
            refine ax_eqi (y := 1) ((lab_bit _ hnF t (by omega)).trans (if_pos hbF)) ?_
            refine ax_istore hC [(13, .int 1), (12, .int (nI t)), (11, .int (nI (min t (nlab TG v)))), (10, .int (nI (min t (nlab TF u)))), (9, .int (nI (2 ^ nlab TG v - 1))), (8, .int (nI (2 ^ nlab TF u - 1))), (7, .int (pK TF u)), (6, .int 0), (5, .int (nI sd)), (4, .int (nI v)), (3, .ref aG), (2, .int (nI u)), (1, .ref aF), (0, .ref cm)] dX1_spread_213 (by decide) rfl ?_
            refine ax_iload hC 4 dX1_spread_215 rfl ?_
            refine ax_iload hC 1 dX1_spread_217 rfl ?_
            refine ax_ishr hC dX1_spread_219 ?_
            refine ax_iconst (v := 1) hC dX1_spread_220 (by decide) ?_
            refine ax_iand hC dX1_spread_221 ?_
            refine ax_eqi (y := 1) ((lab_bit _ hnG t (by omega)).trans (if_pos hbG)) ?_
            refine ax_istore hC [(14, .int 1), (13, .int 1), (12, .int (nI t)), (11, .int (nI (min t (nlab TG v)))), (10, .int (nI (min t (nlab TF u)))), (9, .int (nI (2 ^ nlab TG v - 1))), (8, .int (nI (2 ^ nlab TF u - 1))), (7, .int (pK TF u)), (6, .int 0), (5, .int (nI sd)), (4, .int (nI v)), (3, .ref aG), (2, .int (nI u)), (1, .ref aF), (0, .ref cm)] dX1_spread_222 (by decide) rfl ?_
            refine ax_iload hC 1 dX1_spread_224 rfl ?_
            refine ax_iload hC 0 dX1_spread_226 rfl ?_
            refine ax_iadd hC dX1_spread_228 ?_
            refine ax_eqi (y := 2) (by decide) ?_
            refine ax_iconst (v := 2) hC dX1_spread_229 (by decide) ?_
            refine ax_icmp_ne (tgt := 254) hC dX1_spread_230 (by decide) (fun c2002 => ?_) (fun c2002 => ?_)
            · exact absurd c2002 (by decide)
            · refine ax_aload_n hC 14 dX1_spread_233 rfl rfl ?_
              refine ax_iload hC 9 dX1_spread_234 rfl ?_
              refine ax_aload_n hC 13 dX1_spread_236 rfl rfl ?_
              refine ax_iload_n hC 12 dX1_spread_237 rfl rfl ?_
              refine ax_iload hC 4 dX1_spread_238 rfl ?_
              refine ax_callVp (st := [.int (nI sd), .ref cm]) hC [.int (nI u), .int (nI (min t (nlab TF u)))] hFX.1 rfl (c_X7_stepOf l D z B lo _ hX aF _ TF (nI u) (nI (min t (nlab TF u))) hFX hwF.1 (by rw [nI_toInt (by omega)]; omega)) (cwV 2 hC.1.2.2.2.2 gX1_spread_X7_stepOf rfl rfl rfl (by decide +kernel) ⟨Nat.le_of_ble_eq_true rfl, Nat.le_of_ble_eq_true rfl⟩) rfl rfl (Nat.le_of_ble_eq_true rfl) dX1_spread_240 ⟨Nat.le_of_ble_eq_true rfl, Nat.le_of_ble_eq_true rfl⟩ (fun r2003 er2004 => ?_)
              subst er2004
              refine ax_eqi (y := nI (stp TF u t)) ((by rw [show min t (nlab TF u) = t by omega]; exact (stp_eq hwF u t).1)) ?_
              refine ax_aload_n hC 11 dX1_spread_243 rfl rfl ?_
              refine ax_iload hC 10 dX1_spread_244 rfl ?_
              refine ax_iload hC 3 dX1_spread_246 rfl ?_
              refine ax_callVp (st := [.int (nI (stp TF u t)), .int (nI sd), .ref cm]) hC [.int (nI v), .int (nI (min t (nlab TG v)))] hGX.1 rfl (c_X7_stepOf l D z B lo _ hX aG _ TG (nI v) (nI (min t (nlab TG v))) hGX hwG.1 (by rw [nI_toInt (by omega)]; omega)) (cwV 2 hC.1.2.2.2.2 gX1_spread_X7_stepOf rfl rfl rfl (by decide +kernel) ⟨Nat.le_of_ble_eq_true rfl, Nat.le_of_ble_eq_true rfl⟩) rfl rfl (Nat.le_of_ble_eq_true rfl) dX1_spread_248 ⟨Nat.le_of_ble_eq_true rfl, Nat.le_of_ble_eq_true rfl⟩ (fun r2005 er2006 => ?_)
              subst er2006
              refine ax_eqi (y := nI (stp TG v t)) ((by rw [show min t (nlab TG v) = t by omega]; exact (stp_eq hwG v t).1)) ?_
              refine ax_callVv (st := []) hC [.int (nI sd), .int (nI (stp TF u t)), .int (nI (stp TG v t))] hLXo rfl (c_X1_add l D z B lo _ hX cm sd (stp TF u t) (stp TG v t) _ hLX (by omega) (Nat.lt_of_lt_of_le (stp_eq hwF u t).2 hwF.1) (Nat.lt_of_lt_of_le (stp_eq hwG v t).2 hwG.1)) (cwV 3 hC.1.2.2.2.2 gX1_spread_X1_add rfl rfl rfl (by decide +kernel) ⟨Nat.le_of_ble_eq_true rfl, Nat.le_of_ble_eq_true rfl⟩) rfl rfl (Nat.le_of_ble_eq_true rfl) dX1_spread_251 ⟨Nat.le_of_ble_eq_true rfl, Nat.le_of_ble_eq_true rfl⟩ (fun hi2007 h2008 hp2009 => ?_)
              obtain ⟨ei2010, fr2011, hL2012⟩ := hp2009
              replace ei2010 := ei2010.symm
              subst ei2010
              obtain ⟨seen_hL2012, pairs_hL2012, hL2012o, -⟩ := id hL2012
              have hp_2013 : PrC z h2008 aF _ TF := hFX.kept (fun q _ _ => fr2011 q (by omega))
              have hp_2014 : PrC z h2008 aG _ TG := hGX.kept (fun q _ _ => fr2011 q (by omega))
              refine ax_iload hC 4 dX1_spread_254 rfl ?_
              refine ax_iload hC 1 dX1_spread_256 rfl ?_
              refine ax_iadd hC dX1_spread_258 ?_
              refine ax_eqi (y := nI (min (t + 1) (nlab TF u))) (by rw [show min (t + 1) (nlab TF u) = min t (nlab TF u) + 1 by omega]; exact nI_add _ 1) ?_
              refine ax_istore hC [(10, .int (nI (min (t + 1) (nlab TF u)))), (14, .int 1), (13, .int 1), (12, .int (nI t)), (11, .int (nI (min t (nlab TG v)))), (9, .int (nI (2 ^ nlab TG v - 1))), (8, .int (nI (2 ^ nlab TF u - 1))), (7, .int (pK TF u)), (6, .int 0), (5, .int (nI sd)), (4, .int (nI v)), (3, .ref aG), (2, .int (nI u)), (1, .ref aF), (0, .ref cm)] dX1_spread_259 (by decide) rfl ?_
              refine ax_iload hC 4 dX1_spread_261 rfl ?_
              refine ax_iload hC 1 dX1_spread_263 rfl ?_
              refine ax_iadd hC dX1_spread_265 ?_
              refine ax_eqi (y := nI (min (t + 1) (nlab TG v))) (by rw [show min (t + 1) (nlab TG v) = min t (nlab TG v) + 1 by omega]; exact nI_add _ 1) ?_
              refine ax_istore hC [(11, .int (nI (min (t + 1) (nlab TG v)))), (10, .int (nI (min (t + 1) (nlab TF u)))), (14, .int 1), (13, .int 1), (12, .int (nI t)), (9, .int (nI (2 ^ nlab TG v - 1))), (8, .int (nI (2 ^ nlab TF u - 1))), (7, .int (pK TF u)), (6, .int 0), (5, .int (nI sd)), (4, .int (nI v)), (3, .ref aG), (2, .int (nI u)), (1, .ref aF), (0, .ref cm)] dX1_spread_266 (by decide) rfl ?_
              refine ax_iinc (v := (nI t) + 1) hC 4 [(12, .int ((nI t) + 1)), (11, .int (nI (min (t + 1) (nlab TG v)))), (10, .int (nI (min (t + 1) (nlab TF u)))), (14, .int 1), (13, .int 1), (9, .int (nI (2 ^ nlab TG v - 1))), (8, .int (nI (2 ^ nlab TF u - 1))), (7, .int (pK TF u)), (6, .int 0), (5, .int (nI sd)), (4, .int (nI v)), (3, .ref aG), (2, .int (nI u)), (1, .ref aF), (0, .ref cm)] dX1_spread_268 rfl rfl (by decide) rfl ?_
              refine ax_goto (tgt := 199) hC dX1_spread_271 (by decide) ?_
              refine ax_locals [0, 1, 2, 5, 6, 7, 8, 9, 10, 11, 12, 13, 14] (L' := [(12, .int ((nI t) + 1)), (11, .int (nI (min (t + 1) (nlab TG v)))), (10, .int (nI (min (t + 1) (nlab TF u)))), (9, .int (nI (2 ^ nlab TG v - 1))), (8, .int (nI (2 ^ nlab TF u - 1))), (7, .int (pK TF u)), (6, .int 0), (5, .int (nI sd)), (4, .int (nI v)), (3, .ref aG), (2, .int (nI u)), (1, .ref aF), (0, .ref cm)]) rfl ?_
              rw [show (nI t + 1) = nI (t + 1) from nI_1 t]
              exact ih (t + 1) h2008 (by omega) (fun q hq => ((fr2011 q (by omega))).trans (hfrX q hq)) (by rw [show min (t + 1) (min (nlab TF u) (nlab TG v)) = t + 1 by omega, lext_range]; rw [show min t (min (nlab TF u) (nlab TG v)) = t by omega] at hL2012; exact hL2012)
        · refine ax_iload hC 0 dX1_spread_199 rfl ?_
          refine ax_bipush (v := 26) hC dX1_spread_201 (by decide) ?_
          refine ax_icmp_ge (tgt := 274) hC dX1_spread_203 (by decide) (fun c2016 => ?_) (fun c2016 => ?_)
          · exact absurd c2016 (by rw [L_leN (k := 26) (by decide) (by omega)]; omega)
          · refine ax_iload hC 4 dX1_spread_206 rfl ?_
            refine ax_iload hC 0 dX1_spread_208 rfl ?_
            refine ax_ishr hC dX1_spread_210 ?_
            refine ax_iconst (v := 1) hC dX1_spread_211 (by decide) ?_
            refine ax_iand hC dX1_spread_212 ?_
            refine ax_eqi (y := 1) ((lab_bit _ hnF t (by omega)).trans (if_pos hbF)) ?_
            refine ax_istore hC [(13, .int 1), (12, .int (nI t)), (11, .int (nI (min t (nlab TG v)))), (10, .int (nI (min t (nlab TF u)))), (9, .int (nI (2 ^ nlab TG v - 1))), (8, .int (nI (2 ^ nlab TF u - 1))), (7, .int (pK TF u)), (6, .int 0), (5, .int (nI sd)), (4, .int (nI v)), (3, .ref aG), (2, .int (nI u)), (1, .ref aF), (0, .ref cm)] dX1_spread_213 (by decide) rfl ?_
            refine ax_iload hC 4 dX1_spread_215 rfl ?_
            refine ax_iload hC 1 dX1_spread_217 rfl ?_
            refine ax_ishr hC dX1_spread_219 ?_
            refine ax_iconst (v := 1) hC dX1_spread_220 (by decide) ?_
            refine ax_iand hC dX1_spread_221 ?_
            refine ax_eqi (y := 0) ((lab_bit _ hnG t (by omega)).trans (if_neg hbG)) ?_
            refine ax_istore hC [(14, .int 0), (13, .int 1), (12, .int (nI t)), (11, .int (nI (min t (nlab TG v)))), (10, .int (nI (min t (nlab TF u)))), (9, .int (nI (2 ^ nlab TG v - 1))), (8, .int (nI (2 ^ nlab TF u - 1))), (7, .int (pK TF u)), (6, .int 0), (5, .int (nI sd)), (4, .int (nI v)), (3, .ref aG), (2, .int (nI u)), (1, .ref aF), (0, .ref cm)] dX1_spread_222 (by decide) rfl ?_
            refine ax_iload hC 1 dX1_spread_224 rfl ?_
            refine ax_iload hC 0 dX1_spread_226 rfl ?_
            refine ax_iadd hC dX1_spread_228 ?_
            refine ax_eqi (y := 1) (by decide) ?_
            refine ax_iconst (v := 2) hC dX1_spread_229 (by decide) ?_
            refine ax_icmp_ne (tgt := 254) hC dX1_spread_230 (by decide) (fun c2017 => ?_) (fun c2017 => ?_)
            · refine ax_iload hC 4 dX1_spread_254 rfl ?_
              refine ax_iload hC 1 dX1_spread_256 rfl ?_
              refine ax_iadd hC dX1_spread_258 ?_
              refine ax_eqi (y := nI (min (t + 1) (nlab TF u))) (by rw [show min (t + 1) (nlab TF u) = min t (nlab TF u) + 1 by omega]; exact nI_add _ 1) ?_
              refine ax_istore hC [(10, .int (nI (min (t + 1) (nlab TF u)))), (14, .int 0), (13, .int 1), (12, .int (nI t)), (11, .int (nI (min t (nlab TG v)))), (9, .int (nI (2 ^ nlab TG v - 1))), (8, .int (nI (2 ^ nlab TF u - 1))), (7, .int (pK TF u)), (6, .int 0), (5, .int (nI sd)), (4, .int (nI v)), (3, .ref aG), (2, .int (nI u)), (1, .ref aF), (0, .ref cm)] dX1_spread_259 (by decide) rfl ?_
              refine ax_iload hC 4 dX1_spread_261 rfl ?_
              refine ax_iload hC 1 dX1_spread_263 rfl ?_
              refine ax_iadd hC dX1_spread_265 ?_
              refine ax_eqi (y := nI (min (t + 1) (nlab TG v))) (by rw [show min (t + 1) (nlab TG v) = min t (nlab TG v) + 0 by omega]; exact nI_add _ 0) ?_
              refine ax_istore hC [(11, .int (nI (min (t + 1) (nlab TG v)))), (10, .int (nI (min (t + 1) (nlab TF u)))), (14, .int 0), (13, .int 1), (12, .int (nI t)), (9, .int (nI (2 ^ nlab TG v - 1))), (8, .int (nI (2 ^ nlab TF u - 1))), (7, .int (pK TF u)), (6, .int 0), (5, .int (nI sd)), (4, .int (nI v)), (3, .ref aG), (2, .int (nI u)), (1, .ref aF), (0, .ref cm)] dX1_spread_266 (by decide) rfl ?_
              refine ax_iinc (v := (nI t) + 1) hC 4 [(12, .int ((nI t) + 1)), (11, .int (nI (min (t + 1) (nlab TG v)))), (10, .int (nI (min (t + 1) (nlab TF u)))), (14, .int 0), (13, .int 1), (9, .int (nI (2 ^ nlab TG v - 1))), (8, .int (nI (2 ^ nlab TF u - 1))), (7, .int (pK TF u)), (6, .int 0), (5, .int (nI sd)), (4, .int (nI v)), (3, .ref aG), (2, .int (nI u)), (1, .ref aF), (0, .ref cm)] dX1_spread_268 rfl rfl (by decide) rfl ?_
              refine ax_goto (tgt := 199) hC dX1_spread_271 (by decide) ?_
              refine ax_locals [0, 1, 2, 5, 6, 7, 8, 9, 10, 11, 12, 13, 14] (L' := [(12, .int ((nI t) + 1)), (11, .int (nI (min (t + 1) (nlab TG v)))), (10, .int (nI (min (t + 1) (nlab TF u)))), (9, .int (nI (2 ^ nlab TG v - 1))), (8, .int (nI (2 ^ nlab TF u - 1))), (7, .int (pK TF u)), (6, .int 0), (5, .int (nI sd)), (4, .int (nI v)), (3, .ref aG), (2, .int (nI u)), (1, .ref aF), (0, .ref cm)]) rfl ?_
              rw [show (nI t + 1) = nI (t + 1) from nI_1 t]
              exact ih (t + 1) hX (by omega) (fun q hq => hfrX q hq) (by rw [show min (t + 1) (min (nlab TF u) (nlab TG v)) = min t (min (nlab TF u) (nlab TG v)) by omega]; exact hLX)
            · exact absurd c2017 (by decide)
      · by_cases hbG : t < nlab TG v
        · refine ax_iload hC 0 dX1_spread_199 rfl ?_
          refine ax_bipush (v := 26) hC dX1_spread_201 (by decide) ?_
          refine ax_icmp_ge (tgt := 274) hC dX1_spread_203 (by decide) (fun c2019 => ?_) (fun c2019 => ?_)
          · exact absurd c2019 (by rw [L_leN (k := 26) (by decide) (by omega)]; omega)
          · refine ax_iload hC 4 dX1_spread_206 rfl ?_
            refine ax_iload hC 0 dX1_spread_208 rfl ?_
            refine ax_ishr hC dX1_spread_210 ?_
            refine ax_iconst (v := 1) hC dX1_spread_211 (by decide) ?_
            refine ax_iand hC dX1_spread_212 ?_
            refine ax_eqi (y := 0) ((lab_bit _ hnF t (by omega)).trans (if_neg hbF)) ?_
            refine ax_istore hC [(13, .int 0), (12, .int (nI t)), (11, .int (nI (min t (nlab TG v)))), (10, .int (nI (min t (nlab TF u)))), (9, .int (nI (2 ^ nlab TG v - 1))), (8, .int (nI (2 ^ nlab TF u - 1))), (7, .int (pK TF u)), (6, .int 0), (5, .int (nI sd)), (4, .int (nI v)), (3, .ref aG), (2, .int (nI u)), (1, .ref aF), (0, .ref cm)] dX1_spread_213 (by decide) rfl ?_
            refine ax_iload hC 4 dX1_spread_215 rfl ?_
            refine ax_iload hC 1 dX1_spread_217 rfl ?_
            refine ax_ishr hC dX1_spread_219 ?_
            refine ax_iconst (v := 1) hC dX1_spread_220 (by decide) ?_
            refine ax_iand hC dX1_spread_221 ?_
            refine ax_eqi (y := 1) ((lab_bit _ hnG t (by omega)).trans (if_pos hbG)) ?_
            refine ax_istore hC [(14, .int 1), (13, .int 0), (12, .int (nI t)), (11, .int (nI (min t (nlab TG v)))), (10, .int (nI (min t (nlab TF u)))), (9, .int (nI (2 ^ nlab TG v - 1))), (8, .int (nI (2 ^ nlab TF u - 1))), (7, .int (pK TF u)), (6, .int 0), (5, .int (nI sd)), (4, .int (nI v)), (3, .ref aG), (2, .int (nI u)), (1, .ref aF), (0, .ref cm)] dX1_spread_222 (by decide) rfl ?_
            refine ax_iload hC 1 dX1_spread_224 rfl ?_
            refine ax_iload hC 0 dX1_spread_226 rfl ?_
            refine ax_iadd hC dX1_spread_228 ?_
            refine ax_eqi (y := 1) (by decide) ?_
            refine ax_iconst (v := 2) hC dX1_spread_229 (by decide) ?_
            refine ax_icmp_ne (tgt := 254) hC dX1_spread_230 (by decide) (fun c2020 => ?_) (fun c2020 => ?_)
            · refine ax_iload hC 4 dX1_spread_254 rfl ?_
              refine ax_iload hC 1 dX1_spread_256 rfl ?_
              refine ax_iadd hC dX1_spread_258 ?_
              refine ax_eqi (y := nI (min (t + 1) (nlab TF u))) (by rw [show min (t + 1) (nlab TF u) = min t (nlab TF u) + 0 by omega]; exact nI_add _ 0) ?_
              refine ax_istore hC [(10, .int (nI (min (t + 1) (nlab TF u)))), (14, .int 1), (13, .int 0), (12, .int (nI t)), (11, .int (nI (min t (nlab TG v)))), (9, .int (nI (2 ^ nlab TG v - 1))), (8, .int (nI (2 ^ nlab TF u - 1))), (7, .int (pK TF u)), (6, .int 0), (5, .int (nI sd)), (4, .int (nI v)), (3, .ref aG), (2, .int (nI u)), (1, .ref aF), (0, .ref cm)] dX1_spread_259 (by decide) rfl ?_
              refine ax_iload hC 4 dX1_spread_261 rfl ?_
              refine ax_iload hC 1 dX1_spread_263 rfl ?_
              refine ax_iadd hC dX1_spread_265 ?_
              refine ax_eqi (y := nI (min (t + 1) (nlab TG v))) (by rw [show min (t + 1) (nlab TG v) = min t (nlab TG v) + 1 by omega]; exact nI_add _ 1) ?_
              refine ax_istore hC [(11, .int (nI (min (t + 1) (nlab TG v)))), (10, .int (nI (min (t + 1) (nlab TF u)))), (14, .int 1), (13, .int 0), (12, .int (nI t)), (9, .int (nI (2 ^ nlab TG v - 1))), (8, .int (nI (2 ^ nlab TF u - 1))), (7, .int (pK TF u)), (6, .int 0), (5, .int (nI sd)), (4, .int (nI v)), (3, .ref aG), (2, .int (nI u)), (1, .ref aF), (0, .ref cm)] dX1_spread_266 (by decide) rfl ?_
              refine ax_iinc (v := (nI t) + 1) hC 4 [(12, .int ((nI t) + 1)), (11, .int (nI (min (t + 1) (nlab TG v)))), (10, .int (nI (min (t + 1) (nlab TF u)))), (14, .int 1), (13, .int 0), (9, .int (nI (2 ^ nlab TG v - 1))), (8, .int (nI (2 ^ nlab TF u - 1))), (7, .int (pK TF u)), (6, .int 0), (5, .int (nI sd)), (4, .int (nI v)), (3, .ref aG), (2, .int (nI u)), (1, .ref aF), (0, .ref cm)] dX1_spread_268 rfl rfl (by decide) rfl ?_
              refine ax_goto (tgt := 199) hC dX1_spread_271 (by decide) ?_
              refine ax_locals [0, 1, 2, 5, 6, 7, 8, 9, 10, 11, 12, 13, 14] (L' := [(12, .int ((nI t) + 1)), (11, .int (nI (min (t + 1) (nlab TG v)))), (10, .int (nI (min (t + 1) (nlab TF u)))), (9, .int (nI (2 ^ nlab TG v - 1))), (8, .int (nI (2 ^ nlab TF u - 1))), (7, .int (pK TF u)), (6, .int 0), (5, .int (nI sd)), (4, .int (nI v)), (3, .ref aG), (2, .int (nI u)), (1, .ref aF), (0, .ref cm)]) rfl ?_
              rw [show (nI t + 1) = nI (t + 1) from nI_1 t]
              exact ih (t + 1) hX (by omega) (fun q hq => hfrX q hq) (by rw [show min (t + 1) (min (nlab TF u) (nlab TG v)) = min t (min (nlab TF u) (nlab TG v)) by omega]; exact hLX)
            · exact absurd c2020 (by decide)
        · refine ax_iload hC 0 dX1_spread_199 rfl ?_
          refine ax_bipush (v := 26) hC dX1_spread_201 (by decide) ?_
          refine ax_icmp_ge (tgt := 274) hC dX1_spread_203 (by decide) (fun c2022 => ?_) (fun c2022 => ?_)
          · exact absurd c2022 (by rw [L_leN (k := 26) (by decide) (by omega)]; omega)
          · refine ax_iload hC 4 dX1_spread_206 rfl ?_
            refine ax_iload hC 0 dX1_spread_208 rfl ?_
            refine ax_ishr hC dX1_spread_210 ?_
            refine ax_iconst (v := 1) hC dX1_spread_211 (by decide) ?_
            refine ax_iand hC dX1_spread_212 ?_
            refine ax_eqi (y := 0) ((lab_bit _ hnF t (by omega)).trans (if_neg hbF)) ?_
            refine ax_istore hC [(13, .int 0), (12, .int (nI t)), (11, .int (nI (min t (nlab TG v)))), (10, .int (nI (min t (nlab TF u)))), (9, .int (nI (2 ^ nlab TG v - 1))), (8, .int (nI (2 ^ nlab TF u - 1))), (7, .int (pK TF u)), (6, .int 0), (5, .int (nI sd)), (4, .int (nI v)), (3, .ref aG), (2, .int (nI u)), (1, .ref aF), (0, .ref cm)] dX1_spread_213 (by decide) rfl ?_
            refine ax_iload hC 4 dX1_spread_215 rfl ?_
            refine ax_iload hC 1 dX1_spread_217 rfl ?_
            refine ax_ishr hC dX1_spread_219 ?_
            refine ax_iconst (v := 1) hC dX1_spread_220 (by decide) ?_
            refine ax_iand hC dX1_spread_221 ?_
            refine ax_eqi (y := 0) ((lab_bit _ hnG t (by omega)).trans (if_neg hbG)) ?_
            refine ax_istore hC [(14, .int 0), (13, .int 0), (12, .int (nI t)), (11, .int (nI (min t (nlab TG v)))), (10, .int (nI (min t (nlab TF u)))), (9, .int (nI (2 ^ nlab TG v - 1))), (8, .int (nI (2 ^ nlab TF u - 1))), (7, .int (pK TF u)), (6, .int 0), (5, .int (nI sd)), (4, .int (nI v)), (3, .ref aG), (2, .int (nI u)), (1, .ref aF), (0, .ref cm)] dX1_spread_222 (by decide) rfl ?_
            refine ax_iload hC 1 dX1_spread_224 rfl ?_
            refine ax_iload hC 0 dX1_spread_226 rfl ?_
            refine ax_iadd hC dX1_spread_228 ?_
            refine ax_eqi (y := 0) (by decide) ?_
            refine ax_iconst (v := 2) hC dX1_spread_229 (by decide) ?_
            refine ax_icmp_ne (tgt := 254) hC dX1_spread_230 (by decide) (fun c2023 => ?_) (fun c2023 => ?_)
            · refine ax_iload hC 4 dX1_spread_254 rfl ?_
              refine ax_iload hC 1 dX1_spread_256 rfl ?_
              refine ax_iadd hC dX1_spread_258 ?_
              refine ax_eqi (y := nI (min (t + 1) (nlab TF u))) (by rw [show min (t + 1) (nlab TF u) = min t (nlab TF u) + 0 by omega]; exact nI_add _ 0) ?_
              refine ax_istore hC [(10, .int (nI (min (t + 1) (nlab TF u)))), (14, .int 0), (13, .int 0), (12, .int (nI t)), (11, .int (nI (min t (nlab TG v)))), (9, .int (nI (2 ^ nlab TG v - 1))), (8, .int (nI (2 ^ nlab TF u - 1))), (7, .int (pK TF u)), (6, .int 0), (5, .int (nI sd)), (4, .int (nI v)), (3, .ref aG), (2, .int (nI u)), (1, .ref aF), (0, .ref cm)] dX1_spread_259 (by decide) rfl ?_
              refine ax_iload hC 4 dX1_spread_261 rfl ?_
              refine ax_iload hC 1 dX1_spread_263 rfl ?_
              refine ax_iadd hC dX1_spread_265 ?_
              refine ax_eqi (y := nI (min (t + 1) (nlab TG v))) (by rw [show min (t + 1) (nlab TG v) = min t (nlab TG v) + 0 by omega]; exact nI_add _ 0) ?_
              refine ax_istore hC [(11, .int (nI (min (t + 1) (nlab TG v)))), (10, .int (nI (min (t + 1) (nlab TF u)))), (14, .int 0), (13, .int 0), (12, .int (nI t)), (9, .int (nI (2 ^ nlab TG v - 1))), (8, .int (nI (2 ^ nlab TF u - 1))), (7, .int (pK TF u)), (6, .int 0), (5, .int (nI sd)), (4, .int (nI v)), (3, .ref aG), (2, .int (nI u)), (1, .ref aF), (0, .ref cm)] dX1_spread_266 (by decide) rfl ?_
              refine ax_iinc (v := (nI t) + 1) hC 4 [(12, .int ((nI t) + 1)), (11, .int (nI (min (t + 1) (nlab TG v)))), (10, .int (nI (min (t + 1) (nlab TF u)))), (14, .int 0), (13, .int 0), (9, .int (nI (2 ^ nlab TG v - 1))), (8, .int (nI (2 ^ nlab TF u - 1))), (7, .int (pK TF u)), (6, .int 0), (5, .int (nI sd)), (4, .int (nI v)), (3, .ref aG), (2, .int (nI u)), (1, .ref aF), (0, .ref cm)] dX1_spread_268 rfl rfl (by decide) rfl ?_
              refine ax_goto (tgt := 199) hC dX1_spread_271 (by decide) ?_
              refine ax_locals [0, 1, 2, 5, 6, 7, 8, 9, 10, 11, 12, 13, 14] (L' := [(12, .int ((nI t) + 1)), (11, .int (nI (min (t + 1) (nlab TG v)))), (10, .int (nI (min (t + 1) (nlab TF u)))), (9, .int (nI (2 ^ nlab TG v - 1))), (8, .int (nI (2 ^ nlab TF u - 1))), (7, .int (pK TF u)), (6, .int 0), (5, .int (nI sd)), (4, .int (nI v)), (3, .ref aG), (2, .int (nI u)), (1, .ref aF), (0, .ref cm)]) rfl ?_
              rw [show (nI t + 1) = nI (t + 1) from nI_1 t]
              exact ih (t + 1) hX (by omega) (fun q hq => hfrX q hq) (by rw [show min (t + 1) (min (nlab TF u) (nlab TG v)) = min t (min (nlab TF u) (nlab TG v)) by omega]; exact hLX)
            · exact absurd c2023 (by decide)
  refine ax_aload_n hC 1 dX1_spread_0 rfl rfl ?_
  refine ax_iload_n hC 2 dX1_spread_1 rfl rfl ?_
  refine ax_callVp (st := []) hC [.int (nI u)] hF.1 rfl (c_X7_kindOf l D z B lo _ h aF _ TF (nI u) hF hwF.1) (cwV 1 hC.1.2.2.2.2 gX1_spread_X7_kindOf rfl rfl rfl (by decide +kernel) ⟨Nat.le_of_ble_eq_true rfl, Nat.le_of_ble_eq_true rfl⟩) rfl rfl (Nat.le_of_ble_eq_true rfl) dX1_spread_2 ⟨Nat.le_of_ble_eq_true rfl, Nat.le_of_ble_eq_true rfl⟩ (fun r1 er2 => ?_)
  subst er2
  refine ax_eqi (y := pK TF u) (rd_nat hu (by omega)) ?_
  refine ax_istore hC [(7, .int (pK TF u)), (0, .ref cm), (1, .ref aF), (2, .int (nI u)), (3, .ref aG), (4, .int (nI v)), (5, .int (nI sd)), (6, .int 0)] dX1_spread_5 (by decide) rfl ?_
  refine ax_iload hC 0 dX1_spread_7 rfl ?_
  refine ax_aload_n hC 4 dX1_spread_9 rfl rfl ?_
  refine ax_iload hC 5 dX1_spread_10 rfl ?_
  refine ax_callVp (st := [.int (pK TF u)]) hC [.int (nI v)] hG.1 rfl (c_X7_kindOf l D z B lo _ h aG _ TG (nI v) hG hwG.1) (cwV 1 hC.1.2.2.2.2 gX1_spread_X7_kindOf rfl rfl rfl (by decide +kernel) ⟨Nat.le_of_ble_eq_true rfl, Nat.le_of_ble_eq_true rfl⟩) rfl rfl (Nat.le_of_ble_eq_true rfl) dX1_spread_12 ⟨Nat.le_of_ble_eq_true rfl, Nat.le_of_ble_eq_true rfl⟩ (fun r3 er4 => ?_)
  subst er4
  refine ax_eqi (y := pK TG v) (rd_nat hv (by omega)) ?_
  refine ax_icmp_ne (tgt := 32) hC dX1_spread_15 (by decide) (fun c5 => ?_) (fun c5 => ?_)
  · refine ax_iconst (v := 0) hC dX1_spread_32 (by decide) ?_
    refine ax_zret hC hr hlocks dX1_spread_33 (by decide) ?_
    refine ⟨rfl, (fun _ _ => rfl), Or.inr ⟨rfl, ?_, _, hL⟩⟩
    rintro ⟨k1, k2, k3⟩
    exact c5 k1
  · refine ax_aload_n hC 2 dX1_spread_18 rfl rfl ?_
    refine ax_iload_n hC 3 dX1_spread_19 rfl rfl ?_
    refine ax_callVp (st := []) hC [.int (nI u)] hF.1 rfl (c_X7_sortOf l D z B lo _ h aF _ TF (nI u) hF hwF.1) (cwV 1 hC.1.2.2.2.2 gX1_spread_X7_sortOf rfl rfl rfl (by decide +kernel) ⟨Nat.le_of_ble_eq_true rfl, Nat.le_of_ble_eq_true rfl⟩) rfl rfl (Nat.le_of_ble_eq_true rfl) dX1_spread_20 ⟨Nat.le_of_ble_eq_true rfl, Nat.le_of_ble_eq_true rfl⟩ (fun r6 er7 => ?_)
    subst er7
    refine ax_eqi (y := pS TF u) (rd_nat hu (by omega)) ?_
    refine ax_aload_n hC 4 dX1_spread_23 rfl rfl ?_
    refine ax_iload hC 5 dX1_spread_24 rfl ?_
    refine ax_callVp (st := [.int (pS TF u)]) hC [.int (nI v)] hG.1 rfl (c_X7_sortOf l D z B lo _ h aG _ TG (nI v) hG hwG.1) (cwV 1 hC.1.2.2.2.2 gX1_spread_X7_sortOf rfl rfl rfl (by decide +kernel) ⟨Nat.le_of_ble_eq_true rfl, Nat.le_of_ble_eq_true rfl⟩) rfl rfl (Nat.le_of_ble_eq_true rfl) dX1_spread_26 ⟨Nat.le_of_ble_eq_true rfl, Nat.le_of_ble_eq_true rfl⟩ (fun r8 er9 => ?_)
    subst er9
    refine ax_eqi (y := pS TG v) (rd_nat hv (by omega)) ?_
    refine ax_icmp_eq (tgt := 34) hC dX1_spread_29 (by decide) (fun c10 => ?_) (fun c10 => ?_)
    · refine ax_iload hC 0 dX1_spread_34 rfl ?_
      refine ax_if_ne (tgt := 41) hC dX1_spread_36 (by decide) (fun c11 => ?_) (fun c11 => ?_)
      · refine ax_aload_n hC 2 dX1_spread_41 rfl rfl ?_
        refine ax_iload_n hC 3 dX1_spread_42 rfl rfl ?_
        refine ax_callVp (st := []) hC [.int (nI u)] hF.1 rfl (c_X7_sortOf l D z B lo _ h aF _ TF (nI u) hF hwF.1) (cwV 1 hC.1.2.2.2.2 gX1_spread_X7_sortOf rfl rfl rfl (by decide +kernel) ⟨Nat.le_of_ble_eq_true rfl, Nat.le_of_ble_eq_true rfl⟩) rfl rfl (Nat.le_of_ble_eq_true rfl) dX1_spread_43 ⟨Nat.le_of_ble_eq_true rfl, Nat.le_of_ble_eq_true rfl⟩ (fun r12 er13 => ?_)
        subst er13
        refine ax_eqi (y := pS TF u) (rd_nat hu (by omega)) ?_
        refine ax_bipush (v := 40) hC dX1_spread_46 (by decide) ?_
        refine ax_icmp_ne (tgt := 113) hC dX1_spread_48 (by decide) (fun c14 => ?_) (fun c14 => ?_)
        · refine ax_iload hC 0 dX1_spread_113 rfl ?_
          refine ax_iconst (v := 1) hC dX1_spread_115 (by decide) ?_
          refine ax_icmp_eq (tgt := 125) hC dX1_spread_116 (by decide) (fun c15 => ?_) (fun c15 => ?_)
          · refine ax_aload_n hC 1 dX1_spread_125 rfl rfl ?_
            refine ax_iload hC 6 dX1_spread_126 rfl ?_
            refine ax_aload_n hC 2 dX1_spread_128 rfl rfl ?_
            refine ax_iload_n hC 3 dX1_spread_129 rfl rfl ?_
            refine ax_iconst (v := 0) hC dX1_spread_130 (by decide) ?_
            refine ax_callVp (st := [.int (nI sd), .ref cm]) hC [.int (nI u), .int 0] hF.1 rfl (c_X7_stepOf l D z B lo _ h aF _ TF (nI u) 0 hF hwF.1 (by rw [nI_toInt (by omega)]; omega)) (cwV 2 hC.1.2.2.2.2 gX1_spread_X7_stepOf rfl rfl rfl (by decide +kernel) ⟨Nat.le_of_ble_eq_true rfl, Nat.le_of_ble_eq_true rfl⟩) rfl rfl (Nat.le_of_ble_eq_true rfl) dX1_spread_131 ⟨Nat.le_of_ble_eq_true rfl, Nat.le_of_ble_eq_true rfl⟩ (fun r16 er17 => ?_)
            subst er17
            refine ax_eqi (y := nI (stp TF u 0)) ((stp_eq hwF u 0).1) ?_
            refine ax_aload_n hC 4 dX1_spread_134 rfl rfl ?_
            refine ax_iload hC 5 dX1_spread_135 rfl ?_
            refine ax_iconst (v := 0) hC dX1_spread_137 (by decide) ?_
            refine ax_callVp (st := [.int (nI (stp TF u 0)), .int (nI sd), .ref cm]) hC [.int (nI v), .int 0] hG.1 rfl (c_X7_stepOf l D z B lo _ h aG _ TG (nI v) 0 hG hwG.1 (by rw [nI_toInt (by omega)]; omega)) (cwV 2 hC.1.2.2.2.2 gX1_spread_X7_stepOf rfl rfl rfl (by decide +kernel) ⟨Nat.le_of_ble_eq_true rfl, Nat.le_of_ble_eq_true rfl⟩) rfl rfl (Nat.le_of_ble_eq_true rfl) dX1_spread_138 ⟨Nat.le_of_ble_eq_true rfl, Nat.le_of_ble_eq_true rfl⟩ (fun r18 er19 => ?_)
            subst er19
            refine ax_eqi (y := nI (stp TG v 0)) ((stp_eq hwG v 0).1) ?_
            refine ax_callVv (st := []) hC [.int (nI sd), .int (nI (stp TF u 0)), .int (nI (stp TG v 0))] hLo rfl (c_X1_add l D z B lo _ h cm sd (stp TF u 0) (stp TG v 0) _ hL (by omega) (Nat.lt_of_lt_of_le (stp_eq hwF u 0).2 hwF.1) (Nat.lt_of_lt_of_le (stp_eq hwG v 0).2 hwG.1)) (cwV 3 hC.1.2.2.2.2 gX1_spread_X1_add rfl rfl rfl (by decide +kernel) ⟨Nat.le_of_ble_eq_true rfl, Nat.le_of_ble_eq_true rfl⟩) rfl rfl (Nat.le_of_ble_eq_true rfl) dX1_spread_141 ⟨Nat.le_of_ble_eq_true rfl, Nat.le_of_ble_eq_true rfl⟩ (fun hi20 h21 hp22 => ?_)
            obtain ⟨ei23, fr24, hL25⟩ := hp22
            replace ei23 := ei23.symm
            subst ei23
            obtain ⟨seen_hL25, pairs_hL25, hL25o, -⟩ := id hL25
            have hp_26 : PrC z h21 aF _ TF := hF.kept (fun q _ _ => fr24 q (by omega))
            have hp_27 : PrC z h21 aG _ TG := hG.kept (fun q _ _ => fr24 q (by omega))
            refine ax_iconst (v := 1) hC dX1_spread_144 (by decide) ?_
            refine ax_zret hC hr hlocks dX1_spread_145 (by decide) ?_
            refine ⟨rfl, (fun q hq => (fr24 q (by omega))), Or.inl ⟨rfl, ?_, ?_⟩⟩
            · exact ⟨c5, c10, Or.inr (Or.inl c15)⟩
            · rw [sucL, if_neg c11, if_neg c14, if_pos (Or.inl c15), lext_app]; exact hL25
          · refine ax_iload hC 0 dX1_spread_119 rfl ?_
            refine ax_iconst (v := 2) hC dX1_spread_121 (by decide) ?_
            refine ax_icmp_ne (tgt := 146) hC dX1_spread_122 (by decide) (fun c28 => ?_) (fun c28 => ?_)
            · refine ax_aload_n hC 2 dX1_spread_146 rfl rfl ?_
              refine ax_iload_n hC 3 dX1_spread_147 rfl rfl ?_
              refine ax_callVp (st := []) hC [.int (nI u)] hF.1 rfl (c_X7_labelsOf l D z B lo _ h aF _ TF (nI u) hF hwF.1) (cwV 1 hC.1.2.2.2.2 gX1_spread_X7_labelsOf rfl rfl rfl (by decide +kernel) ⟨Nat.le_of_ble_eq_true rfl, Nat.le_of_ble_eq_true rfl⟩) rfl rfl (Nat.le_of_ble_eq_true rfl) dX1_spread_148 ⟨Nat.le_of_ble_eq_true rfl, Nat.le_of_ble_eq_true rfl⟩ (fun r29 er30 => ?_)
              subst er30
              refine ax_eqi (y := nI (2 ^ nlab TF u - 1)) ((rd_nat hu (by omega)).trans (nlab_eq hwF hu).1) ?_
              refine ax_istore hC [(8, .int (nI (2 ^ nlab TF u - 1))), (7, .int (pK TF u)), (0, .ref cm), (1, .ref aF), (2, .int (nI u)), (3, .ref aG), (4, .int (nI v)), (5, .int (nI sd)), (6, .int 0)] dX1_spread_151 (by decide) rfl ?_
              refine ax_aload_n hC 5 dX1_spread_153 rfl rfl ?_
              refine ax_iload hC 6 dX1_spread_154 rfl ?_
              refine ax_callVp (st := []) hC [.int (nI v)] hG.1 rfl (c_X7_labelsOf l D z B lo _ h aG _ TG (nI v) hG hwG.1) (cwV 1 hC.1.2.2.2.2 gX1_spread_X7_labelsOf rfl rfl rfl (by decide +kernel) ⟨Nat.le_of_ble_eq_true rfl, Nat.le_of_ble_eq_true rfl⟩) rfl rfl (Nat.le_of_ble_eq_true rfl) dX1_spread_156 ⟨Nat.le_of_ble_eq_true rfl, Nat.le_of_ble_eq_true rfl⟩ (fun r31 er32 => ?_)
              subst er32
              refine ax_eqi (y := nI (2 ^ nlab TG v - 1)) ((rd_nat hv (by omega)).trans (nlab_eq hwG hv).1) ?_
              refine ax_istore hC [(9, .int (nI (2 ^ nlab TG v - 1))), (8, .int (nI (2 ^ nlab TF u - 1))), (7, .int (pK TF u)), (0, .ref cm), (1, .ref aF), (2, .int (nI u)), (3, .ref aG), (4, .int (nI v)), (5, .int (nI sd)), (6, .int 0)] dX1_spread_159 (by decide) rfl ?_
              refine ax_iload hC 9 dX1_spread_161 rfl ?_
              refine ax_if_eq (tgt := 176) hC dX1_spread_163 (by decide) (fun c33 => ?_) (fun c33 => ?_)
              · refine ax_iload hC 2 dX1_spread_176 rfl ?_
                refine ax_iload hC 1 dX1_spread_178 rfl ?_
                refine ax_iload hC 0 dX1_spread_180 rfl ?_
                refine ax_callSp (st := []) hC [.int (pK TF u), .int (nI (2 ^ nlab TF u - 1)), .int (nI (2 ^ nlab TG v - 1))] (c_X1_labelsFit l D z B lo _ h (pK TF u) (nI (2 ^ nlab TF u - 1)) (nI (2 ^ nlab TG v - 1))) (va_cwS 3 hC.1.2.2.2.2 gX1_spread_X1_labelsFit rfl rfl rfl (by decide +kernel) ⟨Nat.le_of_ble_eq_true rfl, Nat.le_of_ble_eq_true rfl⟩) rfl rfl (Nat.le_of_ble_eq_true rfl) dX1_spread_182 ⟨Nat.le_of_ble_eq_true rfl, Nat.le_of_ble_eq_true rfl⟩ (fun r34 er35 => ?_)
                subst er35
                refine ax_if_ne (tgt := 190) hC dX1_spread_185 (by decide) (fun c36 => ?_) (fun c36 => ?_)
                · refine ax_iconst (v := 0) hC dX1_spread_190 (by decide) ?_
                  refine ax_istore hC [(10, .int 0), (9, .int (nI (2 ^ nlab TG v - 1))), (8, .int (nI (2 ^ nlab TF u - 1))), (7, .int (pK TF u)), (0, .ref cm), (1, .ref aF), (2, .int (nI u)), (3, .ref aG), (4, .int (nI v)), (5, .int (nI sd)), (6, .int 0)] dX1_spread_191 (by decide) rfl ?_
                  refine ax_iconst (v := 0) hC dX1_spread_193 (by decide) ?_
                  refine ax_istore hC [(11, .int 0), (10, .int 0), (9, .int (nI (2 ^ nlab TG v - 1))), (8, .int (nI (2 ^ nlab TF u - 1))), (7, .int (pK TF u)), (0, .ref cm), (1, .ref aF), (2, .int (nI u)), (3, .ref aG), (4, .int (nI v)), (5, .int (nI sd)), (6, .int 0)] dX1_spread_194 (by decide) rfl ?_
                  refine ax_iconst (v := 0) hC dX1_spread_196 (by decide) ?_
                  refine ax_istore hC [(12, .int 0), (11, .int 0), (10, .int 0), (9, .int (nI (2 ^ nlab TG v - 1))), (8, .int (nI (2 ^ nlab TF u - 1))), (7, .int (pK TF u)), (0, .ref cm), (1, .ref aF), (2, .int (nI u)), (3, .ref aG), (4, .int (nI v)), (5, .int (nI sd)), (6, .int 0)] dX1_spread_197 (by decide) rfl ?_
                  refine ax_locals [0, 1, 2, 3, 4, 5, 12, 11, 10, 9, 8, 7, 6] (L' := [(12, .int 0), (11, .int 0), (10, .int 0), (9, .int (nI (2 ^ nlab TG v - 1))), (8, .int (nI (2 ^ nlab TF u - 1))), (7, .int (pK TF u)), (6, .int 0), (5, .int (nI sd)), (4, .int (nI v)), (3, .ref aG), (2, .int (nI u)), (1, .ref aF), (0, .ref cm)]) rfl ?_
                  have hok : okp TF TG u v := ⟨c5, c10, Or.inr (Or.inr (Or.inr ((lfit_eq (nlab_eq hwF hu).2 (nlab_eq hwG hv).2).mp (by have q := c36; revert q; unfold lfit; split <;> split <;> intro q <;> first | rfl | exact absurd rfl q))))⟩
                  exact LP [] h (Ls) (fun _ _ => rfl) hL hok (by rw [sucL, if_neg c11, if_neg c14, if_neg (by rintro (q | q); exact c15 q; exact c28 q), lext_app]; rfl) 26 0 h (by omega) (fun _ _ => rfl) (by rw [Nat.zero_min]; exact hL)
                · refine ax_iconst (v := 0) hC dX1_spread_188 (by decide) ?_
                  refine ax_zret hC hr hlocks dX1_spread_189 (by decide) ?_
                  refine ⟨rfl, (fun _ _ => rfl), Or.inr ⟨rfl, ?_, _, hL⟩⟩
                  rintro ⟨k1, k2, k3⟩
                  rcases k3 with k3 | k3 | k3 | k3
                  · exact c11 k3
                  · exact c15 k3
                  · exact c28 k3
                  · exact absurd ((lfit_eq (nlab_eq hwF hu).2 (nlab_eq hwG hv).2).mpr k3) (by rw [c36]; decide)
              · exact absurd c33 (by decide)
            · refine ax_aload_n hC 1 dX1_spread_125 rfl rfl ?_
              refine ax_iload hC 6 dX1_spread_126 rfl ?_
              refine ax_aload_n hC 2 dX1_spread_128 rfl rfl ?_
              refine ax_iload_n hC 3 dX1_spread_129 rfl rfl ?_
              refine ax_iconst (v := 0) hC dX1_spread_130 (by decide) ?_
              refine ax_callVp (st := [.int (nI sd), .ref cm]) hC [.int (nI u), .int 0] hF.1 rfl (c_X7_stepOf l D z B lo _ h aF _ TF (nI u) 0 hF hwF.1 (by rw [nI_toInt (by omega)]; omega)) (cwV 2 hC.1.2.2.2.2 gX1_spread_X7_stepOf rfl rfl rfl (by decide +kernel) ⟨Nat.le_of_ble_eq_true rfl, Nat.le_of_ble_eq_true rfl⟩) rfl rfl (Nat.le_of_ble_eq_true rfl) dX1_spread_131 ⟨Nat.le_of_ble_eq_true rfl, Nat.le_of_ble_eq_true rfl⟩ (fun r37 er38 => ?_)
              subst er38
              refine ax_eqi (y := nI (stp TF u 0)) ((stp_eq hwF u 0).1) ?_
              refine ax_aload_n hC 4 dX1_spread_134 rfl rfl ?_
              refine ax_iload hC 5 dX1_spread_135 rfl ?_
              refine ax_iconst (v := 0) hC dX1_spread_137 (by decide) ?_
              refine ax_callVp (st := [.int (nI (stp TF u 0)), .int (nI sd), .ref cm]) hC [.int (nI v), .int 0] hG.1 rfl (c_X7_stepOf l D z B lo _ h aG _ TG (nI v) 0 hG hwG.1 (by rw [nI_toInt (by omega)]; omega)) (cwV 2 hC.1.2.2.2.2 gX1_spread_X7_stepOf rfl rfl rfl (by decide +kernel) ⟨Nat.le_of_ble_eq_true rfl, Nat.le_of_ble_eq_true rfl⟩) rfl rfl (Nat.le_of_ble_eq_true rfl) dX1_spread_138 ⟨Nat.le_of_ble_eq_true rfl, Nat.le_of_ble_eq_true rfl⟩ (fun r39 er40 => ?_)
              subst er40
              refine ax_eqi (y := nI (stp TG v 0)) ((stp_eq hwG v 0).1) ?_
              refine ax_callVv (st := []) hC [.int (nI sd), .int (nI (stp TF u 0)), .int (nI (stp TG v 0))] hLo rfl (c_X1_add l D z B lo _ h cm sd (stp TF u 0) (stp TG v 0) _ hL (by omega) (Nat.lt_of_lt_of_le (stp_eq hwF u 0).2 hwF.1) (Nat.lt_of_lt_of_le (stp_eq hwG v 0).2 hwG.1)) (cwV 3 hC.1.2.2.2.2 gX1_spread_X1_add rfl rfl rfl (by decide +kernel) ⟨Nat.le_of_ble_eq_true rfl, Nat.le_of_ble_eq_true rfl⟩) rfl rfl (Nat.le_of_ble_eq_true rfl) dX1_spread_141 ⟨Nat.le_of_ble_eq_true rfl, Nat.le_of_ble_eq_true rfl⟩ (fun hi41 h42 hp43 => ?_)
              obtain ⟨ei44, fr45, hL46⟩ := hp43
              replace ei44 := ei44.symm
              subst ei44
              obtain ⟨seen_hL46, pairs_hL46, hL46o, -⟩ := id hL46
              have hp_47 : PrC z h42 aF _ TF := hF.kept (fun q _ _ => fr45 q (by omega))
              have hp_48 : PrC z h42 aG _ TG := hG.kept (fun q _ _ => fr45 q (by omega))
              refine ax_iconst (v := 1) hC dX1_spread_144 (by decide) ?_
              refine ax_zret hC hr hlocks dX1_spread_145 (by decide) ?_
              refine ⟨rfl, (fun q hq => (fr45 q (by omega))), Or.inl ⟨rfl, ?_, ?_⟩⟩
              · exact ⟨c5, c10, Or.inr (Or.inr (Or.inl c28))⟩
              · rw [sucL, if_neg c11, if_neg c14, if_pos (Or.inr c28), lext_app]; exact hL46
        · refine ax_iload hC 0 dX1_spread_51 rfl ?_
          refine ax_iconst (v := 1) hC dX1_spread_53 (by decide) ?_
          refine ax_icmp_ne (tgt := 66) hC dX1_spread_54 (by decide) (fun c49 => ?_) (fun c49 => ?_)
          · refine ax_iconst (v := 0) hC dX1_spread_66 (by decide) ?_
            refine ax_istore hC [(8, .int 0), (7, .int (pK TF u)), (0, .ref cm), (1, .ref aF), (2, .int (nI u)), (3, .ref aG), (4, .int (nI v)), (5, .int (nI sd)), (6, .int 0)] dX1_spread_67 (by decide) rfl ?_
            refine ax_iload hC 0 dX1_spread_69 rfl ?_
            refine ax_if_eq (tgt := 96) hC dX1_spread_71 (by decide) (fun c50 => ?_) (fun c50 => ?_)
            · refine ax_aload_n hC 2 dX1_spread_96 rfl rfl ?_
              refine ax_iload hC 7 dX1_spread_97 rfl ?_
              refine ax_aload_n hC 3 dX1_spread_99 rfl rfl ?_
              refine ax_iload_n hC 4 dX1_spread_100 rfl rfl ?_
              refine ax_callVp (st := [.int (nI sd), .ref cm]) hC [.int (nI u)] hF.1 rfl (c_X7_innerOf l D z B lo _ h aF _ TF (nI u) hF hwF.1) (cwV 1 hC.1.2.2.2.2 gX1_spread_X7_innerOf rfl rfl rfl (by decide +kernel) ⟨Nat.le_of_ble_eq_true rfl, Nat.le_of_ble_eq_true rfl⟩) rfl rfl (Nat.le_of_ble_eq_true rfl) dX1_spread_101 ⟨Nat.le_of_ble_eq_true rfl, Nat.le_of_ble_eq_true rfl⟩ (fun r51 er52 => ?_)
              subst er52
              refine ax_eqi (y := nI (inn TF u)) ((sN_eq hwF _).1) ?_
              refine ax_aload_n hC 5 dX1_spread_104 rfl rfl ?_
              refine ax_iload hC 6 dX1_spread_105 rfl ?_
              refine ax_callVp (st := [.int (nI (inn TF u)), .int (nI sd), .ref cm]) hC [.int (nI v)] hG.1 rfl (c_X7_innerOf l D z B lo _ h aG _ TG (nI v) hG hwG.1) (cwV 1 hC.1.2.2.2.2 gX1_spread_X7_innerOf rfl rfl rfl (by decide +kernel) ⟨Nat.le_of_ble_eq_true rfl, Nat.le_of_ble_eq_true rfl⟩) rfl rfl (Nat.le_of_ble_eq_true rfl) dX1_spread_107 ⟨Nat.le_of_ble_eq_true rfl, Nat.le_of_ble_eq_true rfl⟩ (fun r53 er54 => ?_)
              subst er54
              refine ax_eqi (y := nI (inn TG v)) ((sN_eq hwG _).1) ?_
              refine ax_callVv (st := []) hC [.int (nI sd), .int (nI (inn TF u)), .int (nI (inn TG v))] hLo rfl (c_X1_add l D z B lo _ h cm sd (inn TF u) (inn TG v) _ hL (by omega) (Nat.lt_of_lt_of_le (sN_eq hwF _).2 hwF.1) (Nat.lt_of_lt_of_le (sN_eq hwG _).2 hwG.1)) (cwV 3 hC.1.2.2.2.2 gX1_spread_X1_add rfl rfl rfl (by decide +kernel) ⟨Nat.le_of_ble_eq_true rfl, Nat.le_of_ble_eq_true rfl⟩) rfl rfl (Nat.le_of_ble_eq_true rfl) dX1_spread_110 ⟨Nat.le_of_ble_eq_true rfl, Nat.le_of_ble_eq_true rfl⟩ (fun hi55 h56 hp57 => ?_)
              obtain ⟨ei58, fr59, hL60⟩ := hp57
              replace ei58 := ei58.symm
              subst ei58
              obtain ⟨seen_hL60, pairs_hL60, hL60o, -⟩ := id hL60
              have hp_61 : PrC z h56 aF _ TF := hF.kept (fun q _ _ => fr59 q (by omega))
              have hp_62 : PrC z h56 aG _ TG := hG.kept (fun q _ _ => fr59 q (by omega))
              refine ax_iload hC 1 dX1_spread_113 rfl ?_
              refine ax_iconst (v := 1) hC dX1_spread_115 (by decide) ?_
              refine ax_icmp_eq (tgt := 125) hC dX1_spread_116 (by decide) (fun c63 => ?_) (fun c63 => ?_)
              · exact absurd c63 c49
              · refine ax_iload hC 1 dX1_spread_119 rfl ?_
                refine ax_iconst (v := 2) hC dX1_spread_121 (by decide) ?_
                refine ax_icmp_ne (tgt := 146) hC dX1_spread_122 (by decide) (fun c64 => ?_) (fun c64 => ?_)
                · refine ax_aload_n hC 3 dX1_spread_146 rfl rfl ?_
                  refine ax_iload_n hC 4 dX1_spread_147 rfl rfl ?_
                  refine ax_callVp (st := []) hC [.int (nI u)] hp_61.1 rfl (c_X7_labelsOf l D z B lo _ h56 aF _ TF (nI u) hp_61 hwF.1) (cwV 1 hC.1.2.2.2.2 gX1_spread_X7_labelsOf rfl rfl rfl (by decide +kernel) ⟨Nat.le_of_ble_eq_true rfl, Nat.le_of_ble_eq_true rfl⟩) rfl rfl (Nat.le_of_ble_eq_true rfl) dX1_spread_148 ⟨Nat.le_of_ble_eq_true rfl, Nat.le_of_ble_eq_true rfl⟩ (fun r65 er66 => ?_)
                  subst er66
                  refine ax_eqi (y := nI (2 ^ nlab TF u - 1)) ((rd_nat hu (by omega)).trans (nlab_eq hwF hu).1) ?_
                  refine ax_istore hC [(8, .int (nI (2 ^ nlab TF u - 1))), (7, .int (pK TF u)), (0, .ref cm), (1, .ref aF), (2, .int (nI u)), (3, .ref aG), (4, .int (nI v)), (5, .int (nI sd)), (6, .int 0)] dX1_spread_151 (by decide) rfl ?_
                  refine ax_aload_n hC 5 dX1_spread_153 rfl rfl ?_
                  refine ax_iload hC 6 dX1_spread_154 rfl ?_
                  refine ax_callVp (st := []) hC [.int (nI v)] hp_62.1 rfl (c_X7_labelsOf l D z B lo _ h56 aG _ TG (nI v) hp_62 hwG.1) (cwV 1 hC.1.2.2.2.2 gX1_spread_X7_labelsOf rfl rfl rfl (by decide +kernel) ⟨Nat.le_of_ble_eq_true rfl, Nat.le_of_ble_eq_true rfl⟩) rfl rfl (Nat.le_of_ble_eq_true rfl) dX1_spread_156 ⟨Nat.le_of_ble_eq_true rfl, Nat.le_of_ble_eq_true rfl⟩ (fun r67 er68 => ?_)
                  subst er68
                  refine ax_eqi (y := nI (2 ^ nlab TG v - 1)) ((rd_nat hv (by omega)).trans (nlab_eq hwG hv).1) ?_
                  refine ax_istore hC [(9, .int (nI (2 ^ nlab TG v - 1))), (8, .int (nI (2 ^ nlab TF u - 1))), (7, .int (pK TF u)), (0, .ref cm), (1, .ref aF), (2, .int (nI u)), (3, .ref aG), (4, .int (nI v)), (5, .int (nI sd)), (6, .int 0)] dX1_spread_159 (by decide) rfl ?_
                  refine ax_iload hC 9 dX1_spread_161 rfl ?_
                  refine ax_if_eq (tgt := 176) hC dX1_spread_163 (by decide) (fun c69 => ?_) (fun c69 => ?_)
                  · refine ax_iload hC 2 dX1_spread_176 rfl ?_
                    refine ax_iload hC 1 dX1_spread_178 rfl ?_
                    refine ax_iload hC 0 dX1_spread_180 rfl ?_
                    refine ax_callSp (st := []) hC [.int (pK TF u), .int (nI (2 ^ nlab TF u - 1)), .int (nI (2 ^ nlab TG v - 1))] (c_X1_labelsFit l D z B lo _ h56 (pK TF u) (nI (2 ^ nlab TF u - 1)) (nI (2 ^ nlab TG v - 1))) (va_cwS 3 hC.1.2.2.2.2 gX1_spread_X1_labelsFit rfl rfl rfl (by decide +kernel) ⟨Nat.le_of_ble_eq_true rfl, Nat.le_of_ble_eq_true rfl⟩) rfl rfl (Nat.le_of_ble_eq_true rfl) dX1_spread_182 ⟨Nat.le_of_ble_eq_true rfl, Nat.le_of_ble_eq_true rfl⟩ (fun r70 er71 => ?_)
                    subst er71
                    refine ax_if_ne (tgt := 190) hC dX1_spread_185 (by decide) (fun c72 => ?_) (fun c72 => ?_)
                    · refine ax_iconst (v := 0) hC dX1_spread_190 (by decide) ?_
                      refine ax_istore hC [(10, .int 0), (9, .int (nI (2 ^ nlab TG v - 1))), (8, .int (nI (2 ^ nlab TF u - 1))), (7, .int (pK TF u)), (0, .ref cm), (1, .ref aF), (2, .int (nI u)), (3, .ref aG), (4, .int (nI v)), (5, .int (nI sd)), (6, .int 0)] dX1_spread_191 (by decide) rfl ?_
                      refine ax_iconst (v := 0) hC dX1_spread_193 (by decide) ?_
                      refine ax_istore hC [(11, .int 0), (10, .int 0), (9, .int (nI (2 ^ nlab TG v - 1))), (8, .int (nI (2 ^ nlab TF u - 1))), (7, .int (pK TF u)), (0, .ref cm), (1, .ref aF), (2, .int (nI u)), (3, .ref aG), (4, .int (nI v)), (5, .int (nI sd)), (6, .int 0)] dX1_spread_194 (by decide) rfl ?_
                      refine ax_iconst (v := 0) hC dX1_spread_196 (by decide) ?_
                      refine ax_istore hC [(12, .int 0), (11, .int 0), (10, .int 0), (9, .int (nI (2 ^ nlab TG v - 1))), (8, .int (nI (2 ^ nlab TF u - 1))), (7, .int (pK TF u)), (0, .ref cm), (1, .ref aF), (2, .int (nI u)), (3, .ref aG), (4, .int (nI v)), (5, .int (nI sd)), (6, .int 0)] dX1_spread_197 (by decide) rfl ?_
                      refine ax_locals [0, 1, 2, 3, 4, 5, 12, 11, 10, 9, 8, 7, 6] (L' := [(12, .int 0), (11, .int 0), (10, .int 0), (9, .int (nI (2 ^ nlab TG v - 1))), (8, .int (nI (2 ^ nlab TF u - 1))), (7, .int (pK TF u)), (6, .int 0), (5, .int (nI sd)), (4, .int (nI v)), (3, .ref aG), (2, .int (nI u)), (1, .ref aF), (0, .ref cm)]) rfl ?_
                      have hok : okp TF TG u v := ⟨c5, c10, Or.inr (Or.inr (Or.inr ((lfit_eq (nlab_eq hwF hu).2 (nlab_eq hwG hv).2).mp (by have q := c72; revert q; unfold lfit; split <;> split <;> intro q <;> first | rfl | exact absurd rfl q))))⟩
                      exact LP [] h56 (ladd (Ls) (3600 * sd + 60 * (inn TF u) + (inn TG v))) (fun q hq => (fr59 q (by omega))) hL60 hok (by rw [sucL, if_neg c11, if_pos c14, if_neg c49, if_neg (by rintro (q | q); exact c49 q; exact c64 q), lext_app]; rfl) 26 0 h56 (by omega) (fun _ _ => rfl) (by rw [Nat.zero_min]; exact hL60)
                    · refine ax_iconst (v := 0) hC dX1_spread_188 (by decide) ?_
                      refine ax_zret hC hr hlocks dX1_spread_189 (by decide) ?_
                      refine ⟨rfl, (fun q hq => (fr59 q (by omega))), Or.inr ⟨rfl, ?_, _, hL60⟩⟩
                      rintro ⟨k1, k2, k3⟩
                      rcases k3 with k3 | k3 | k3 | k3
                      · exact c11 k3
                      · exact c49 k3
                      · exact c64 k3
                      · exact absurd ((lfit_eq (nlab_eq hwF hu).2 (nlab_eq hwG hv).2).mpr k3) (by rw [c72]; decide)
                  · exact absurd c69 (by decide)
                · refine ax_aload_n hC 2 dX1_spread_125 rfl rfl ?_
                  refine ax_iload hC 7 dX1_spread_126 rfl ?_
                  refine ax_aload_n hC 3 dX1_spread_128 rfl rfl ?_
                  refine ax_iload_n hC 4 dX1_spread_129 rfl rfl ?_
                  refine ax_iconst (v := 0) hC dX1_spread_130 (by decide) ?_
                  refine ax_callVp (st := [.int (nI sd), .ref cm]) hC [.int (nI u), .int 0] hp_61.1 rfl (c_X7_stepOf l D z B lo _ h56 aF _ TF (nI u) 0 hp_61 hwF.1 (by rw [nI_toInt (by omega)]; omega)) (cwV 2 hC.1.2.2.2.2 gX1_spread_X7_stepOf rfl rfl rfl (by decide +kernel) ⟨Nat.le_of_ble_eq_true rfl, Nat.le_of_ble_eq_true rfl⟩) rfl rfl (Nat.le_of_ble_eq_true rfl) dX1_spread_131 ⟨Nat.le_of_ble_eq_true rfl, Nat.le_of_ble_eq_true rfl⟩ (fun r73 er74 => ?_)
                  subst er74
                  refine ax_eqi (y := nI (stp TF u 0)) ((stp_eq hwF u 0).1) ?_
                  refine ax_aload_n hC 5 dX1_spread_134 rfl rfl ?_
                  refine ax_iload hC 6 dX1_spread_135 rfl ?_
                  refine ax_iconst (v := 0) hC dX1_spread_137 (by decide) ?_
                  refine ax_callVp (st := [.int (nI (stp TF u 0)), .int (nI sd), .ref cm]) hC [.int (nI v), .int 0] hp_62.1 rfl (c_X7_stepOf l D z B lo _ h56 aG _ TG (nI v) 0 hp_62 hwG.1 (by rw [nI_toInt (by omega)]; omega)) (cwV 2 hC.1.2.2.2.2 gX1_spread_X7_stepOf rfl rfl rfl (by decide +kernel) ⟨Nat.le_of_ble_eq_true rfl, Nat.le_of_ble_eq_true rfl⟩) rfl rfl (Nat.le_of_ble_eq_true rfl) dX1_spread_138 ⟨Nat.le_of_ble_eq_true rfl, Nat.le_of_ble_eq_true rfl⟩ (fun r75 er76 => ?_)
                  subst er76
                  refine ax_eqi (y := nI (stp TG v 0)) ((stp_eq hwG v 0).1) ?_
                  refine ax_callVv (st := []) hC [.int (nI sd), .int (nI (stp TF u 0)), .int (nI (stp TG v 0))] hL60o rfl (c_X1_add l D z B lo _ h56 cm sd (stp TF u 0) (stp TG v 0) _ hL60 (by omega) (Nat.lt_of_lt_of_le (stp_eq hwF u 0).2 hwF.1) (Nat.lt_of_lt_of_le (stp_eq hwG v 0).2 hwG.1)) (cwV 3 hC.1.2.2.2.2 gX1_spread_X1_add rfl rfl rfl (by decide +kernel) ⟨Nat.le_of_ble_eq_true rfl, Nat.le_of_ble_eq_true rfl⟩) rfl rfl (Nat.le_of_ble_eq_true rfl) dX1_spread_141 ⟨Nat.le_of_ble_eq_true rfl, Nat.le_of_ble_eq_true rfl⟩ (fun hi77 h78 hp79 => ?_)
                  obtain ⟨ei80, fr81, hL82⟩ := hp79
                  replace ei80 := ei80.symm
                  subst ei80
                  obtain ⟨seen_hL82, pairs_hL82, hL82o, -⟩ := id hL82
                  have hp_83 : PrC z h78 aF _ TF := hp_61.kept (fun q _ _ => fr81 q (by omega))
                  have hp_84 : PrC z h78 aG _ TG := hp_62.kept (fun q _ _ => fr81 q (by omega))
                  refine ax_iconst (v := 1) hC dX1_spread_144 (by decide) ?_
                  refine ax_zret hC hr hlocks dX1_spread_145 (by decide) ?_
                  refine ⟨rfl, (fun q hq => ((fr81 q (by omega)).trans (fr59 q (by omega)))), Or.inl ⟨rfl, ?_, ?_⟩⟩
                  · exact ⟨c5, c10, Or.inr (Or.inr (Or.inl c64))⟩
                  · rw [sucL, if_neg c11, if_pos c14, if_neg c49, if_pos (Or.inr c64), lext_app]; exact hL82
            · exact absurd c50 (by decide)
          · refine ax_iload hC 7 dX1_spread_57 rfl ?_
            refine ax_if_ne (tgt := 66) hC dX1_spread_59 (by decide) (fun c85 => ?_) (fun c85 => ?_)
            · exact absurd c85 (by decide)
            · refine ax_iconst (v := 1) hC dX1_spread_62 (by decide) ?_
              refine ax_goto (tgt := 67) hC dX1_spread_63 (by decide) ?_
              refine ax_istore hC [(8, .int 1), (7, .int (pK TF u)), (0, .ref cm), (1, .ref aF), (2, .int (nI u)), (3, .ref aG), (4, .int (nI v)), (5, .int (nI sd)), (6, .int 0)] dX1_spread_67 (by decide) rfl ?_
              refine ax_iload hC 0 dX1_spread_69 rfl ?_
              refine ax_if_eq (tgt := 96) hC dX1_spread_71 (by decide) (fun c86 => ?_) (fun c86 => ?_)
              · exact absurd c86 (by decide)
              · refine ax_aload_n hC 2 dX1_spread_74 rfl rfl ?_
                refine ax_iconst (v := 1) hC dX1_spread_75 (by decide) ?_
                refine ax_iload hC 7 dX1_spread_76 rfl ?_
                refine ax_isub hC dX1_spread_78 ?_
                refine ax_eqi (y := nI (1 - sd)) (by rcases (show sd = 0 ∨ sd = 1 by omega) with rfl | rfl <;> decide) ?_
                refine ax_aload_n hC 5 dX1_spread_79 rfl rfl ?_
                refine ax_iload hC 6 dX1_spread_80 rfl ?_
                refine ax_callVp (st := [.int (nI (1 - sd)), .ref cm]) hC [.int (nI v)] hG.1 rfl (c_X7_innerOf l D z B lo _ h aG _ TG (nI v) hG hwG.1) (cwV 1 hC.1.2.2.2.2 gX1_spread_X7_innerOf rfl rfl rfl (by decide +kernel) ⟨Nat.le_of_ble_eq_true rfl, Nat.le_of_ble_eq_true rfl⟩) rfl rfl (Nat.le_of_ble_eq_true rfl) dX1_spread_82 ⟨Nat.le_of_ble_eq_true rfl, Nat.le_of_ble_eq_true rfl⟩ (fun r87 er88 => ?_)
                subst er88
                refine ax_eqi (y := nI (inn TG v)) ((sN_eq hwG _).1) ?_
                refine ax_aload_n hC 3 dX1_spread_85 rfl rfl ?_
                refine ax_iload_n hC 4 dX1_spread_86 rfl rfl ?_
                refine ax_callVp (st := [.int (nI (inn TG v)), .int (nI (1 - sd)), .ref cm]) hC [.int (nI u)] hF.1 rfl (c_X7_innerOf l D z B lo _ h aF _ TF (nI u) hF hwF.1) (cwV 1 hC.1.2.2.2.2 gX1_spread_X7_innerOf rfl rfl rfl (by decide +kernel) ⟨Nat.le_of_ble_eq_true rfl, Nat.le_of_ble_eq_true rfl⟩) rfl rfl (Nat.le_of_ble_eq_true rfl) dX1_spread_87 ⟨Nat.le_of_ble_eq_true rfl, Nat.le_of_ble_eq_true rfl⟩ (fun r89 er90 => ?_)
                subst er90
                refine ax_eqi (y := nI (inn TF u)) ((sN_eq hwF _).1) ?_
                refine ax_callVv (st := []) hC [.int (nI (1 - sd)), .int (nI (inn TG v)), .int (nI (inn TF u))] hLo rfl (c_X1_add l D z B lo _ h cm (1 - sd) (inn TG v) (inn TF u) _ hL (by omega) (Nat.lt_of_lt_of_le (sN_eq hwG _).2 hwG.1) (Nat.lt_of_lt_of_le (sN_eq hwF _).2 hwF.1)) (cwV 3 hC.1.2.2.2.2 gX1_spread_X1_add rfl rfl rfl (by decide +kernel) ⟨Nat.le_of_ble_eq_true rfl, Nat.le_of_ble_eq_true rfl⟩) rfl rfl (Nat.le_of_ble_eq_true rfl) dX1_spread_90 ⟨Nat.le_of_ble_eq_true rfl, Nat.le_of_ble_eq_true rfl⟩ (fun hi91 h92 hp93 => ?_)
                obtain ⟨ei94, fr95, hL96⟩ := hp93
                replace ei94 := ei94.symm
                subst ei94
                obtain ⟨seen_hL96, pairs_hL96, hL96o, -⟩ := id hL96
                have hp_97 : PrC z h92 aF _ TF := hF.kept (fun q _ _ => fr95 q (by omega))
                have hp_98 : PrC z h92 aG _ TG := hG.kept (fun q _ _ => fr95 q (by omega))
                refine ax_goto (tgt := 113) hC dX1_spread_93 (by decide) ?_
                refine ax_iload hC 1 dX1_spread_113 rfl ?_
                refine ax_iconst (v := 1) hC dX1_spread_115 (by decide) ?_
                refine ax_icmp_eq (tgt := 125) hC dX1_spread_116 (by decide) (fun c99 => ?_) (fun c99 => ?_)
                · refine ax_aload_n hC 2 dX1_spread_125 rfl rfl ?_
                  refine ax_iload hC 7 dX1_spread_126 rfl ?_
                  refine ax_aload_n hC 3 dX1_spread_128 rfl rfl ?_
                  refine ax_iload_n hC 4 dX1_spread_129 rfl rfl ?_
                  refine ax_iconst (v := 0) hC dX1_spread_130 (by decide) ?_
                  refine ax_callVp (st := [.int (nI sd), .ref cm]) hC [.int (nI u), .int 0] hp_97.1 rfl (c_X7_stepOf l D z B lo _ h92 aF _ TF (nI u) 0 hp_97 hwF.1 (by rw [nI_toInt (by omega)]; omega)) (cwV 2 hC.1.2.2.2.2 gX1_spread_X7_stepOf rfl rfl rfl (by decide +kernel) ⟨Nat.le_of_ble_eq_true rfl, Nat.le_of_ble_eq_true rfl⟩) rfl rfl (Nat.le_of_ble_eq_true rfl) dX1_spread_131 ⟨Nat.le_of_ble_eq_true rfl, Nat.le_of_ble_eq_true rfl⟩ (fun r100 er101 => ?_)
                  subst er101
                  refine ax_eqi (y := nI (stp TF u 0)) ((stp_eq hwF u 0).1) ?_
                  refine ax_aload_n hC 5 dX1_spread_134 rfl rfl ?_
                  refine ax_iload hC 6 dX1_spread_135 rfl ?_
                  refine ax_iconst (v := 0) hC dX1_spread_137 (by decide) ?_
                  refine ax_callVp (st := [.int (nI (stp TF u 0)), .int (nI sd), .ref cm]) hC [.int (nI v), .int 0] hp_98.1 rfl (c_X7_stepOf l D z B lo _ h92 aG _ TG (nI v) 0 hp_98 hwG.1 (by rw [nI_toInt (by omega)]; omega)) (cwV 2 hC.1.2.2.2.2 gX1_spread_X7_stepOf rfl rfl rfl (by decide +kernel) ⟨Nat.le_of_ble_eq_true rfl, Nat.le_of_ble_eq_true rfl⟩) rfl rfl (Nat.le_of_ble_eq_true rfl) dX1_spread_138 ⟨Nat.le_of_ble_eq_true rfl, Nat.le_of_ble_eq_true rfl⟩ (fun r102 er103 => ?_)
                  subst er103
                  refine ax_eqi (y := nI (stp TG v 0)) ((stp_eq hwG v 0).1) ?_
                  refine ax_callVv (st := []) hC [.int (nI sd), .int (nI (stp TF u 0)), .int (nI (stp TG v 0))] hL96o rfl (c_X1_add l D z B lo _ h92 cm sd (stp TF u 0) (stp TG v 0) _ hL96 (by omega) (Nat.lt_of_lt_of_le (stp_eq hwF u 0).2 hwF.1) (Nat.lt_of_lt_of_le (stp_eq hwG v 0).2 hwG.1)) (cwV 3 hC.1.2.2.2.2 gX1_spread_X1_add rfl rfl rfl (by decide +kernel) ⟨Nat.le_of_ble_eq_true rfl, Nat.le_of_ble_eq_true rfl⟩) rfl rfl (Nat.le_of_ble_eq_true rfl) dX1_spread_141 ⟨Nat.le_of_ble_eq_true rfl, Nat.le_of_ble_eq_true rfl⟩ (fun hi104 h105 hp106 => ?_)
                  obtain ⟨ei107, fr108, hL109⟩ := hp106
                  replace ei107 := ei107.symm
                  subst ei107
                  obtain ⟨seen_hL109, pairs_hL109, hL109o, -⟩ := id hL109
                  have hp_110 : PrC z h105 aF _ TF := hp_97.kept (fun q _ _ => fr108 q (by omega))
                  have hp_111 : PrC z h105 aG _ TG := hp_98.kept (fun q _ _ => fr108 q (by omega))
                  refine ax_iconst (v := 1) hC dX1_spread_144 (by decide) ?_
                  refine ax_zret hC hr hlocks dX1_spread_145 (by decide) ?_
                  refine ⟨rfl, (fun q hq => ((fr108 q (by omega)).trans (fr95 q (by omega)))), Or.inl ⟨rfl, ?_, ?_⟩⟩
                  · exact ⟨c5, c10, Or.inr (Or.inl c49)⟩
                  · rw [sucL, if_neg c11, if_pos c14, if_pos c49, if_pos (Or.inl c49), lext_app]; exact hL109
                · exact absurd c49 c99
      · refine ax_iconst (v := 1) hC dX1_spread_39 (by decide) ?_
        refine ax_zret hC hr hlocks dX1_spread_40 (by decide) ?_
        refine ⟨rfl, (fun _ _ => rfl), Or.inl ⟨rfl, ?_, ?_⟩⟩
        · exact ⟨c5, c10, Or.inl c11⟩
        · rw [sucL, if_pos c11]; exact hL
    · refine ax_iconst (v := 0) hC dX1_spread_32 (by decide) ?_
      refine ax_zret hC hr hlocks dX1_spread_33 (by decide) ?_
      refine ⟨rfl, (fun _ _ => rfl), Or.inr ⟨rfl, ?_, _, hL⟩⟩
      rintro ⟨k1, k2, k3⟩
      exact c10 k2
