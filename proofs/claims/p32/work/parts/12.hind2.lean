def fol (P Q : PT) (u v : Nat) : List Nat := if pK P u = 1 ∨ pK P u = 2 then [60 * stp P u 0 + stp Q v 0] else if pK P u = 3 ∨ pK P u = 4 then (List.range (min (nlab P u) (nlab Q v))).map (fun j => 60 * stp P u j + stp Q v j) else []
theorem lab_and : ∀ n, n ≤ 3 → ∀ k, k ≤ 3 → nI (2 ^ n - 1) &&& nI (2 ^ k - 1) = nI (2 ^ (min n k) - 1) := by decide +kernel
theorem popc_lab : ∀ n, n ≤ 3 → ∀ t, t < n → popc (nI (2 ^ n - 1) &&& (((1 : Int32) <<< ((nI t) &&& 31)) - 1)) = nI t := by decide +kernel
theorem lab_set : ∀ n, n ≤ 3 → ∀ t, t < n → ¬ (nI (2 ^ n - 1) >>> ((nI t) &&& 31)) &&& 1 = 0 := by decide +kernel
/-- behind, where the LABEL is there-/
theorem behf_lab {T : PT} (hw : wfP T) {u t : Nat} (hu : u < pcap T) (hk : ¬ (pK T u = 1 ∨ pK T u = 2)) (ht : t < nlab T u) : behf T (nI u) (nI t) = nI (stp T u t) := by
  have h60 := hw.1
  obtain ⟨e1, e2⟩ := nlab_eq hw hu
  rw [behf, rd_nat hu (by omega), if_neg hk, rd_nat hu (by omega), e1, if_neg, popc_lab _ e2 t ht, (stp_eq hw u t).1]
  rintro (q | q | q)
  · exact nI_pos (by omega) q
  · rw [L_leN (k := 26) (by decide) (by omega)] at q; omega
  · exact lab_set _ e2 t ht q
theorem mod_pair (u v : Nat) (hv : v < 60) : (60 * u + v) / 60 = u ∧ (60 * u + v) % 60 = v := by omega

abbrev rmX3_follow : Room := { frames := 2, cells := 0, slots := 0, locals := 48 }
set_option maxRecDepth 100000 in
set_option maxHeartbeats 4000000 in
theorem c_X3_follow (l : Launch) (D : va_G) (z : Nat → ClassId) (B : Heap) (lo hi : Nat) (h : Nat → Option va_E) (hn cm aF aG u v : Nat) (len hh : Int32) (Ls : List Nat) (ndF ndG : Int32) (TF TG : PT) (hH : HinL z h hn cm len Ls) (hF : PrC z h aF ndF TF) (hG : PrC z h aG ndG TG) (hwF : wfP TF) (hwG : wfP TG) (hu : u < pcap TF) (hv : v < pcap TG) (hKK : pK TF u = pK TG v) (hdF : hn + 6 ≤ aF) (hdG : hn + 6 ≤ aG) : Met l yX3_follow wsX3_follow rmX3_follow (KP D vwCl B lo hi h (ty6 z) [.ref hn, .ref aF, .int (nI u), .ref aG, .int (nI v), .int hh]) (KQv D vwCl B lo (ty6 z) (fun hi' h' => hi' = hi ∧ (∀ q, (q < hn ∨ hn + 6 ≤ q) → h' q = h q) ∧ HinL z h' hn cm len (lext Ls (fol TF TG u v)))) 0 0 (fun q => lo ≤ q) := by
  have hwF1 := hwF.1
  have hwG1 := hwG.1
  obtain ⟨_, _, _, _, _, hHo, -⟩ := id hH
  refine ax_met (by decide) rfl (Nat.le_of_ble_eq_true rfl) (L0 := [(0, .ref hn), (1, .ref aF), (2, .int (nI u)), (3, .ref aG), (4, .int (nI v)), (5, .int hh)]) rfl ?_
  intro p e s m args below meth c hC hr hlocks hnm hargs
  have LP : ¬ (pK TF u = 1 ∨ pK TF u = 2) → fol TF TG u v = (List.range (min (nlab TF u) (nlab TG v))).map (fun j => 60 * stp TF u j + stp TG v j) → ∀ (n t : Nat) (hX : Nat → Option va_E), t + n = 26 → (∀ q, (q < hn ∨ hn + 6 ≤ q) → hX q = h q) → HinL z hX hn cm len (lext Ls ((List.range (min t (min (nlab TF u) (nlab TG v)))).map (fun j => 60 * stp TF u j + stp TG v j))) → Gx p l e rmX3_follow s m args below meth c D vwCl B lo 9 (MQ below (KQv D vwCl B lo (ty6 z) (fun hi' h' => hi' = hi ∧ (∀ q, (q < hn ∨ hn + 6 ≤ q) → h' q = h q) ∧ HinL z h' hn cm len (lext Ls (fol TF TG u v)))) args s 0 0 (fun q => lo ≤ q)) hi hX 0 0 [(8, .int (nI t)), (7, .int (nI (2 ^ (min (nlab TF u) (nlab TG v)) - 1))), (6, .int (pK TF u)), (5, .int hh), (4, .int (nI v)), (3, .ref aG), (2, .int (nI u)), (1, .ref aF), (0, .ref hn)] 70 [] := by
    intro hnk hfin n
    have hnF := (nlab_eq hwF hu).2
    have hnG := (nlab_eq hwG hv).2
    have hnk2 : ∀ q : pK TG v = 1 ∨ pK TG v = 2, False := fun q => hnk (hKK ▸ q)
    induction n with
    | zero =>
      intro t hX htn hfr hHX
      have hFX : PrC z hX aF _ TF := hF.kept (fun q _ _ => hfr q (by omega))
      have hGX : PrC z hX aG _ TG := hG.kept (fun q _ _ => hfr q (by omega))
      obtain ⟨_, _, _, _, _, hHXo, -⟩ := id hHX
      refine ax_iload hC 0 dX3_follow_70 rfl ?_
      refine ax_bipush (v := 26) hC dX3_follow_72 (by decide) ?_
      refine ax_icmp_ge (tgt := 122) hC dX3_follow_74 (by decide) (fun c1001 => ?_) (fun c1001 => ?_)
      · refine ax_vret hC hr hlocks dX3_follow_122 ?_
        exact ⟨rfl, hfr, by rw [hfin]; rw [show min t (min (nlab TF u) (nlab TG v)) = min (nlab TF u) (nlab TG v) by omega] at hHX; exact hHX⟩
      · exact absurd (by rw [L_leN (k := 26) (by decide) (by omega)]; omega) c1001
    | succ n ih =>
      intro t hX htn hfr hHX
      have hFX : PrC z hX aF _ TF := hF.kept (fun q _ _ => hfr q (by omega))
      have hGX : PrC z hX aG _ TG := hG.kept (fun q _ _ => hfr q (by omega))
      obtain ⟨_, _, _, _, _, hHXo, -⟩ := id hHX
      by_cases hb : t < min (nlab TF u) (nlab TG v)
      · refine ax_iload hC 0 dX3_follow_70 rfl ?_
        refine ax_bipush (v := 26) hC dX3_follow_72 (by decide) ?_
        refine ax_icmp_ge (tgt := 122) hC dX3_follow_74 (by decide) (fun c2001 => ?_) (fun c2001 => ?_)
        · exact absurd c2001 (by rw [L_leN (k := 26) (by decide) (by omega)]; omega)
        · refine ax_iload hC 1 dX3_follow_77 rfl ?_
          refine ax_iload hC 0 dX3_follow_79 rfl ?_
          refine ax_ishr hC dX3_follow_81 ?_
          refine ax_iconst (v := 1) hC dX3_follow_82 (by decide) ?_
          refine ax_iand hC dX3_follow_83 ?_
          refine ax_eqi (y := 1) ((lab_bit _ (by omega) t (by omega)).trans (if_pos hb)) ?_
          refine ax_if_ne (tgt := 90) hC dX3_follow_84 (by decide) (fun c2002 => ?_) (fun c2002 => ?_)
          · refine ax_aload_n hC 8 dX3_follow_90 rfl rfl ?_
            refine ax_aload_n hC 7 dX3_follow_91 rfl rfl ?_
            refine ax_iload_n hC 6 dX3_follow_92 rfl rfl ?_
            refine ax_iload hC 0 dX3_follow_93 rfl ?_
            refine ax_callVp (st := [.ref hn]) hC [.int (nI u), .int (nI t)] hFX.1 rfl (c_X7_behind l D z B lo _ hX aF _ TF (nI u) (nI t) hFX hwF.1 (by rw [nI_toInt (by omega)]; omega)) (cwV 2 hC.1.2.2.2.2 gX3_follow_X7_behind rfl rfl rfl (by decide +kernel) ⟨Nat.le_of_ble_eq_true rfl, Nat.le_of_ble_eq_true rfl⟩) rfl rfl (Nat.le_of_ble_eq_true rfl) dX3_follow_95 ⟨Nat.le_of_ble_eq_true rfl, Nat.le_of_ble_eq_true rfl⟩ (fun r2003 er2004 => ?_)
            subst er2004
            refine ax_eqi (y := nI (stp TF u t)) (behf_lab hwF hu hnk (by omega)) ?_
            refine ax_aload_n hC 5 dX3_follow_98 rfl rfl ?_
            refine ax_iload hC 4 dX3_follow_99 rfl ?_
            refine ax_iload hC 0 dX3_follow_101 rfl ?_
            refine ax_callVp (st := [.int (nI (stp TF u t)), .ref hn]) hC [.int (nI v), .int (nI t)] hGX.1 rfl (c_X7_behind l D z B lo _ hX aG _ TG (nI v) (nI t) hGX hwG.1 (by rw [nI_toInt (by omega)]; omega)) (cwV 2 hC.1.2.2.2.2 gX3_follow_X7_behind rfl rfl rfl (by decide +kernel) ⟨Nat.le_of_ble_eq_true rfl, Nat.le_of_ble_eq_true rfl⟩) rfl rfl (Nat.le_of_ble_eq_true rfl) dX3_follow_103 ⟨Nat.le_of_ble_eq_true rfl, Nat.le_of_ble_eq_true rfl⟩ (fun r2005 er2006 => ?_)
            subst er2006
            refine ax_eqi (y := nI (stp TG v t)) (behf_lab hwG hv hnk2 (by omega)) ?_
            refine ax_iload hC 3 dX3_follow_106 rfl ?_
            refine ax_bipush (v := 97) hC dX3_follow_108 (by decide) ?_
            refine ax_iload hC 0 dX3_follow_110 rfl ?_
            refine ax_iadd hC dX3_follow_112 ?_
            refine ax_callVv (st := []) hC [.int (nI (stp TF u t)), .int (nI (stp TG v t)), .int hh, .int (97 + (nI t))] hHXo rfl (c_X3_add l D z B lo _ hX hn cm (stp TF u t) (stp TG v t) _ hh (97 + (nI t)) _ hHX (Nat.lt_of_lt_of_le (stp_eq hwF u t).2 hwF.1) (Nat.lt_of_lt_of_le (stp_eq hwG v t).2 hwG.1)) (cwV 4 hC.1.2.2.2.2 gX3_follow_X3_add rfl rfl rfl (by decide +kernel) ⟨Nat.le_of_ble_eq_true rfl, Nat.le_of_ble_eq_true rfl⟩) rfl rfl (Nat.le_of_ble_eq_true rfl) dX3_follow_113 ⟨Nat.le_of_ble_eq_true rfl, Nat.le_of_ble_eq_true rfl⟩ (fun hi2007 h2008 hp2009 => ?_)
            obtain ⟨ei2010, fr2011, hL2012⟩ := hp2009
            replace ei2010 := ei2010.symm
            subst ei2010
            obtain ⟨_, _, _, _, _, hL2012o, -⟩ := id hL2012
            have hp_2013 : PrC z h2008 aF _ TF := hFX.kept (fun q _ _ => fr2011 q (by omega))
            have hp_2014 : PrC z h2008 aG _ TG := hGX.kept (fun q _ _ => fr2011 q (by omega))
            refine ax_iinc (v := (nI t) + 1) hC 0 [(8, .int ((nI t) + 1)), (7, .int (nI (2 ^ (min (nlab TF u) (nlab TG v)) - 1))), (6, .int (pK TF u)), (5, .int hh), (4, .int (nI v)), (3, .ref aG), (2, .int (nI u)), (1, .ref aF), (0, .ref hn)] dX3_follow_116 rfl rfl (by decide) rfl ?_
            refine ax_goto (tgt := 70) hC dX3_follow_119 (by decide) ?_
            refine ax_locals [0, 1, 2, 3, 4, 5, 6, 7, 8] (L' := [(8, .int ((nI t) + 1)), (7, .int (nI (2 ^ (min (nlab TF u) (nlab TG v)) - 1))), (6, .int (pK TF u)), (5, .int hh), (4, .int (nI v)), (3, .ref aG), (2, .int (nI u)), (1, .ref aF), (0, .ref hn)]) rfl ?_
            rw [show (nI t + 1) = nI (t + 1) from nI_1 t]
            exact ih (t + 1) h2008 (by omega) (fun q hq => ((fr2011 q (by omega))).trans (hfr q hq)) (by rw [show min (t + 1) (min (nlab TF u) (nlab TG v)) = t + 1 by omega, lext_range]; rw [show min t (min (nlab TF u) (nlab TG v)) = t by omega] at hL2012; exact hL2012)
          · exact absurd c2002 (by decide)
      · refine ax_iload hC 0 dX3_follow_70 rfl ?_
        refine ax_bipush (v := 26) hC dX3_follow_72 (by decide) ?_
        refine ax_icmp_ge (tgt := 122) hC dX3_follow_74 (by decide) (fun c2016 => ?_) (fun c2016 => ?_)
        · exact absurd c2016 (by rw [L_leN (k := 26) (by decide) (by omega)]; omega)
        · refine ax_iload hC 1 dX3_follow_77 rfl ?_
          refine ax_iload hC 0 dX3_follow_79 rfl ?_
          refine ax_ishr hC dX3_follow_81 ?_
          refine ax_iconst (v := 1) hC dX3_follow_82 (by decide) ?_
          refine ax_iand hC dX3_follow_83 ?_
          refine ax_eqi (y := 0) ((lab_bit _ (by omega) t (by omega)).trans (if_neg hb)) ?_
          refine ax_if_ne (tgt := 90) hC dX3_follow_84 (by decide) (fun c2017 => ?_) (fun c2017 => ?_)
          · exact absurd c2017 (by decide)
          · refine ax_goto (tgt := 116) hC dX3_follow_87 (by decide) ?_
            refine ax_iinc (v := (nI t) + 1) hC 0 [(8, .int ((nI t) + 1)), (7, .int (nI (2 ^ (min (nlab TF u) (nlab TG v)) - 1))), (6, .int (pK TF u)), (5, .int hh), (4, .int (nI v)), (3, .ref aG), (2, .int (nI u)), (1, .ref aF), (0, .ref hn)] dX3_follow_116 rfl rfl (by decide) rfl ?_
            refine ax_goto (tgt := 70) hC dX3_follow_119 (by decide) ?_
            refine ax_locals [0, 1, 2, 3, 4, 5, 6, 7, 8] (L' := [(8, .int ((nI t) + 1)), (7, .int (nI (2 ^ (min (nlab TF u) (nlab TG v)) - 1))), (6, .int (pK TF u)), (5, .int hh), (4, .int (nI v)), (3, .ref aG), (2, .int (nI u)), (1, .ref aF), (0, .ref hn)]) rfl ?_
            rw [show (nI t + 1) = nI (t + 1) from nI_1 t]
            exact ih (t + 1) hX (by omega) (fun q hq => hfr q hq) (by rw [show min (t + 1) (min (nlab TF u) (nlab TG v)) = min t (min (nlab TF u) (nlab TG v)) by omega]; exact hHX)
  refine ax_aload_n hC 1 dX3_follow_0 rfl rfl ?_
  refine ax_iload_n hC 2 dX3_follow_1 rfl rfl ?_
  refine ax_callVp (st := []) hC [.int (nI u)] hF.1 rfl (c_X7_kindOf l D z B lo _ h aF _ TF (nI u) hF hwF.1) (cwV 1 hC.1.2.2.2.2 gX3_follow_X7_kindOf rfl rfl rfl (by decide +kernel) ⟨Nat.le_of_ble_eq_true rfl, Nat.le_of_ble_eq_true rfl⟩) rfl rfl (Nat.le_of_ble_eq_true rfl) dX3_follow_2 ⟨Nat.le_of_ble_eq_true rfl, Nat.le_of_ble_eq_true rfl⟩ (fun r1 er2 => ?_)
  subst er2
  refine ax_eqi (y := pK TF u) (rd_nat hu (by omega)) ?_
  refine ax_istore hC [(6, .int (pK TF u)), (0, .ref hn), (1, .ref aF), (2, .int (nI u)), (3, .ref aG), (4, .int (nI v)), (5, .int hh)] dX3_follow_5 (by decide) rfl ?_
  refine ax_iload hC 0 dX3_follow_7 rfl ?_
  refine ax_iconst (v := 1) hC dX3_follow_9 (by decide) ?_
  refine ax_icmp_eq (tgt := 19) hC dX3_follow_10 (by decide) (fun c3 => ?_) (fun c3 => ?_)
  · refine ax_aload_n hC 1 dX3_follow_19 rfl rfl ?_
    refine ax_aload_n hC 2 dX3_follow_20 rfl rfl ?_
    refine ax_iload_n hC 3 dX3_follow_21 rfl rfl ?_
    refine ax_iconst (v := 0) hC dX3_follow_22 (by decide) ?_
    refine ax_callVp (st := [.ref hn]) hC [.int (nI u), .int 0] hF.1 rfl (c_X7_stepOf l D z B lo _ h aF _ TF (nI u) 0 hF hwF.1 (by rw [nI_toInt (by omega)]; omega)) (cwV 2 hC.1.2.2.2.2 gX3_follow_X7_stepOf rfl rfl rfl (by decide +kernel) ⟨Nat.le_of_ble_eq_true rfl, Nat.le_of_ble_eq_true rfl⟩) rfl rfl (Nat.le_of_ble_eq_true rfl) dX3_follow_23 ⟨Nat.le_of_ble_eq_true rfl, Nat.le_of_ble_eq_true rfl⟩ (fun r4 er5 => ?_)
    subst er5
    refine ax_eqi (y := nI (stp TF u 0)) ((stp_eq hwF u 0).1) ?_
    refine ax_aload_n hC 4 dX3_follow_26 rfl rfl ?_
    refine ax_iload hC 5 dX3_follow_27 rfl ?_
    refine ax_iconst (v := 0) hC dX3_follow_29 (by decide) ?_
    refine ax_callVp (st := [.int (nI (stp TF u 0)), .ref hn]) hC [.int (nI v), .int 0] hG.1 rfl (c_X7_stepOf l D z B lo _ h aG _ TG (nI v) 0 hG hwG.1 (by rw [nI_toInt (by omega)]; omega)) (cwV 2 hC.1.2.2.2.2 gX3_follow_X7_stepOf rfl rfl rfl (by decide +kernel) ⟨Nat.le_of_ble_eq_true rfl, Nat.le_of_ble_eq_true rfl⟩) rfl rfl (Nat.le_of_ble_eq_true rfl) dX3_follow_30 ⟨Nat.le_of_ble_eq_true rfl, Nat.le_of_ble_eq_true rfl⟩ (fun r6 er7 => ?_)
    subst er7
    refine ax_eqi (y := nI (stp TG v 0)) ((stp_eq hwG v 0).1) ?_
    refine ax_iload hC 6 dX3_follow_33 rfl ?_
    refine ax_bipush (v := 46) hC dX3_follow_35 (by decide) ?_
    refine ax_callVv (st := []) hC [.int (nI (stp TF u 0)), .int (nI (stp TG v 0)), .int hh, .int 46] hHo rfl (c_X3_add l D z B lo _ h hn cm (stp TF u 0) (stp TG v 0) _ hh 46 _ hH (Nat.lt_of_lt_of_le (stp_eq hwF u 0).2 hwF.1) (Nat.lt_of_lt_of_le (stp_eq hwG v 0).2 hwG.1)) (cwV 4 hC.1.2.2.2.2 gX3_follow_X3_add rfl rfl rfl (by decide +kernel) ⟨Nat.le_of_ble_eq_true rfl, Nat.le_of_ble_eq_true rfl⟩) rfl rfl (Nat.le_of_ble_eq_true rfl) dX3_follow_37 ⟨Nat.le_of_ble_eq_true rfl, Nat.le_of_ble_eq_true rfl⟩ (fun hi8 h9 hp10 => ?_)
    obtain ⟨ei11, fr12, hL13⟩ := hp10
    replace ei11 := ei11.symm
    subst ei11
    obtain ⟨_, _, _, _, _, hL13o, -⟩ := id hL13
    have hp_14 : PrC z h9 aF _ TF := hF.kept (fun q _ _ => fr12 q (by omega))
    have hp_15 : PrC z h9 aG _ TG := hG.kept (fun q _ _ => fr12 q (by omega))
    refine ax_iload hC 0 dX3_follow_40 rfl ?_
    refine ax_iconst (v := 3) hC dX3_follow_42 (by decide) ?_
    refine ax_icmp_eq (tgt := 53) hC dX3_follow_43 (by decide) (fun c16 => ?_) (fun c16 => ?_)
    · exact absurd (c3.symm.trans c16) (by decide)
    · refine ax_iload hC 0 dX3_follow_46 rfl ?_
      refine ax_iconst (v := 4) hC dX3_follow_48 (by decide) ?_
      refine ax_icmp_eq (tgt := 53) hC dX3_follow_49 (by decide) (fun c17 => ?_) (fun c17 => ?_)
      · exact absurd (c3.symm.trans c17) (by decide)
      · refine ax_vret hC hr hlocks dX3_follow_52 ?_
        exact ⟨rfl, fun q hq => (fr12 q (by omega)), by rw [fol, if_pos (Or.inl c3)]; exact hL13⟩
  · refine ax_iload hC 0 dX3_follow_13 rfl ?_
    refine ax_iconst (v := 2) hC dX3_follow_15 (by decide) ?_
    refine ax_icmp_ne (tgt := 40) hC dX3_follow_16 (by decide) (fun c18 => ?_) (fun c18 => ?_)
    · refine ax_iload hC 0 dX3_follow_40 rfl ?_
      refine ax_iconst (v := 3) hC dX3_follow_42 (by decide) ?_
      refine ax_icmp_eq (tgt := 53) hC dX3_follow_43 (by decide) (fun c19 => ?_) (fun c19 => ?_)
      · refine ax_aload_n hC 2 dX3_follow_53 rfl rfl ?_
        refine ax_iload_n hC 3 dX3_follow_54 rfl rfl ?_
        refine ax_callVp (st := []) hC [.int (nI u)] hF.1 rfl (c_X7_labelsOf l D z B lo _ h aF _ TF (nI u) hF hwF.1) (cwV 1 hC.1.2.2.2.2 gX3_follow_X7_labelsOf rfl rfl rfl (by decide +kernel) ⟨Nat.le_of_ble_eq_true rfl, Nat.le_of_ble_eq_true rfl⟩) rfl rfl (Nat.le_of_ble_eq_true rfl) dX3_follow_55 ⟨Nat.le_of_ble_eq_true rfl, Nat.le_of_ble_eq_true rfl⟩ (fun r20 er21 => ?_)
        subst er21
        refine ax_eqi (y := nI (2 ^ nlab TF u - 1)) ((rd_nat hu (by omega)).trans (nlab_eq hwF hu).1) ?_
        refine ax_aload_n hC 4 dX3_follow_58 rfl rfl ?_
        refine ax_iload hC 5 dX3_follow_59 rfl ?_
        refine ax_callVp (st := [.int (nI (2 ^ nlab TF u - 1))]) hC [.int (nI v)] hG.1 rfl (c_X7_labelsOf l D z B lo _ h aG _ TG (nI v) hG hwG.1) (cwV 1 hC.1.2.2.2.2 gX3_follow_X7_labelsOf rfl rfl rfl (by decide +kernel) ⟨Nat.le_of_ble_eq_true rfl, Nat.le_of_ble_eq_true rfl⟩) rfl rfl (Nat.le_of_ble_eq_true rfl) dX3_follow_61 ⟨Nat.le_of_ble_eq_true rfl, Nat.le_of_ble_eq_true rfl⟩ (fun r22 er23 => ?_)
        subst er23
        refine ax_eqi (y := nI (2 ^ nlab TG v - 1)) ((rd_nat hv (by omega)).trans (nlab_eq hwG hv).1) ?_
        refine ax_iand hC dX3_follow_64 ?_
        refine ax_eqi (y := nI (2 ^ (min (nlab TF u) (nlab TG v)) - 1)) (lab_and _ (nlab_eq hwF hu).2 _ (nlab_eq hwG hv).2) ?_
        refine ax_istore hC [(7, .int (nI (2 ^ (min (nlab TF u) (nlab TG v)) - 1))), (6, .int (pK TF u)), (0, .ref hn), (1, .ref aF), (2, .int (nI u)), (3, .ref aG), (4, .int (nI v)), (5, .int hh)] dX3_follow_65 (by decide) rfl ?_
        refine ax_iconst (v := 0) hC dX3_follow_67 (by decide) ?_
        refine ax_istore hC [(8, .int 0), (7, .int (nI (2 ^ (min (nlab TF u) (nlab TG v)) - 1))), (6, .int (pK TF u)), (0, .ref hn), (1, .ref aF), (2, .int (nI u)), (3, .ref aG), (4, .int (nI v)), (5, .int hh)] dX3_follow_68 (by decide) rfl ?_
        refine ax_locals [0, 1, 2, 8, 7, 6, 5, 4, 3] (L' := [(8, .int 0), (7, .int (nI (2 ^ (min (nlab TF u) (nlab TG v)) - 1))), (6, .int (pK TF u)), (5, .int hh), (4, .int (nI v)), (3, .ref aG), (2, .int (nI u)), (1, .ref aF), (0, .ref hn)]) rfl ?_
        exact LP (by rintro (q | q); exact c3 q; exact c18 q) (by rw [fol, if_neg (by rintro (q | q); exact c3 q; exact c18 q), if_pos (Or.inl c19)]) 26 0 h (by omega) (fun _ _ => rfl) (by rw [Nat.zero_min]; exact hH)
      · refine ax_iload hC 0 dX3_follow_46 rfl ?_
        refine ax_iconst (v := 4) hC dX3_follow_48 (by decide) ?_
        refine ax_icmp_eq (tgt := 53) hC dX3_follow_49 (by decide) (fun c24 => ?_) (fun c24 => ?_)
        · refine ax_aload_n hC 2 dX3_follow_53 rfl rfl ?_
          refine ax_iload_n hC 3 dX3_follow_54 rfl rfl ?_
          refine ax_callVp (st := []) hC [.int (nI u)] hF.1 rfl (c_X7_labelsOf l D z B lo _ h aF _ TF (nI u) hF hwF.1) (cwV 1 hC.1.2.2.2.2 gX3_follow_X7_labelsOf rfl rfl rfl (by decide +kernel) ⟨Nat.le_of_ble_eq_true rfl, Nat.le_of_ble_eq_true rfl⟩) rfl rfl (Nat.le_of_ble_eq_true rfl) dX3_follow_55 ⟨Nat.le_of_ble_eq_true rfl, Nat.le_of_ble_eq_true rfl⟩ (fun r25 er26 => ?_)
          subst er26
          refine ax_eqi (y := nI (2 ^ nlab TF u - 1)) ((rd_nat hu (by omega)).trans (nlab_eq hwF hu).1) ?_
          refine ax_aload_n hC 4 dX3_follow_58 rfl rfl ?_
          refine ax_iload hC 5 dX3_follow_59 rfl ?_
          refine ax_callVp (st := [.int (nI (2 ^ nlab TF u - 1))]) hC [.int (nI v)] hG.1 rfl (c_X7_labelsOf l D z B lo _ h aG _ TG (nI v) hG hwG.1) (cwV 1 hC.1.2.2.2.2 gX3_follow_X7_labelsOf rfl rfl rfl (by decide +kernel) ⟨Nat.le_of_ble_eq_true rfl, Nat.le_of_ble_eq_true rfl⟩) rfl rfl (Nat.le_of_ble_eq_true rfl) dX3_follow_61 ⟨Nat.le_of_ble_eq_true rfl, Nat.le_of_ble_eq_true rfl⟩ (fun r27 er28 => ?_)
          subst er28
          refine ax_eqi (y := nI (2 ^ nlab TG v - 1)) ((rd_nat hv (by omega)).trans (nlab_eq hwG hv).1) ?_
          refine ax_iand hC dX3_follow_64 ?_
          refine ax_eqi (y := nI (2 ^ (min (nlab TF u) (nlab TG v)) - 1)) (lab_and _ (nlab_eq hwF hu).2 _ (nlab_eq hwG hv).2) ?_
          refine ax_istore hC [(7, .int (nI (2 ^ (min (nlab TF u) (nlab TG v)) - 1))), (6, .int (pK TF u)), (0, .ref hn), (1, .ref aF), (2, .int (nI u)), (3, .ref aG), (4, .int (nI v)), (5, .int hh)] dX3_follow_65 (by decide) rfl ?_
          refine ax_iconst (v := 0) hC dX3_follow_67 (by decide) ?_
          refine ax_istore hC [(8, .int 0), (7, .int (nI (2 ^ (min (nlab TF u) (nlab TG v)) - 1))), (6, .int (pK TF u)), (0, .ref hn), (1, .ref aF), (2, .int (nI u)), (3, .ref aG), (4, .int (nI v)), (5, .int hh)] dX3_follow_68 (by decide) rfl ?_
          refine ax_locals [0, 1, 2, 8, 7, 6, 5, 4, 3] (L' := [(8, .int 0), (7, .int (nI (2 ^ (min (nlab TF u) (nlab TG v)) - 1))), (6, .int (pK TF u)), (5, .int hh), (4, .int (nI v)), (3, .ref aG), (2, .int (nI u)), (1, .ref aF), (0, .ref hn)]) rfl ?_
          exact LP (by rintro (q | q); exact c3 q; exact c18 q) (by rw [fol, if_neg (by rintro (q | q); exact c3 q; exact c18 q), if_pos (Or.inr c24)]) 26 0 h (by omega) (fun _ _ => rfl) (by rw [Nat.zero_min]; exact hH)
        · refine ax_vret hC hr hlocks dX3_follow_52 ?_
          exact ⟨rfl, fun _ _ => rfl, by rw [fol, if_neg (by rintro (q | q); exact c3 q; exact c18 q), if_neg (by rintro (q | q); exact c19 q; exact c24 q)]; exact hH⟩
    · refine ax_aload_n hC 1 dX3_follow_19 rfl rfl ?_
      refine ax_aload_n hC 2 dX3_follow_20 rfl rfl ?_
      refine ax_iload_n hC 3 dX3_follow_21 rfl rfl ?_
      refine ax_iconst (v := 0) hC dX3_follow_22 (by decide) ?_
      refine ax_callVp (st := [.ref hn]) hC [.int (nI u), .int 0] hF.1 rfl (c_X7_stepOf l D z B lo _ h aF _ TF (nI u) 0 hF hwF.1 (by rw [nI_toInt (by omega)]; omega)) (cwV 2 hC.1.2.2.2.2 gX3_follow_X7_stepOf rfl rfl rfl (by decide +kernel) ⟨Nat.le_of_ble_eq_true rfl, Nat.le_of_ble_eq_true rfl⟩) rfl rfl (Nat.le_of_ble_eq_true rfl) dX3_follow_23 ⟨Nat.le_of_ble_eq_true rfl, Nat.le_of_ble_eq_true rfl⟩ (fun r29 er30 => ?_)
      subst er30
      refine ax_eqi (y := nI (stp TF u 0)) ((stp_eq hwF u 0).1) ?_
      refine ax_aload_n hC 4 dX3_follow_26 rfl rfl ?_
      refine ax_iload hC 5 dX3_follow_27 rfl ?_
      refine ax_iconst (v := 0) hC dX3_follow_29 (by decide) ?_
      refine ax_callVp (st := [.int (nI (stp TF u 0)), .ref hn]) hC [.int (nI v), .int 0] hG.1 rfl (c_X7_stepOf l D z B lo _ h aG _ TG (nI v) 0 hG hwG.1 (by rw [nI_toInt (by omega)]; omega)) (cwV 2 hC.1.2.2.2.2 gX3_follow_X7_stepOf rfl rfl rfl (by decide +kernel) ⟨Nat.le_of_ble_eq_true rfl, Nat.le_of_ble_eq_true rfl⟩) rfl rfl (Nat.le_of_ble_eq_true rfl) dX3_follow_30 ⟨Nat.le_of_ble_eq_true rfl, Nat.le_of_ble_eq_true rfl⟩ (fun r31 er32 => ?_)
      subst er32
      refine ax_eqi (y := nI (stp TG v 0)) ((stp_eq hwG v 0).1) ?_
      refine ax_iload hC 6 dX3_follow_33 rfl ?_
      refine ax_bipush (v := 46) hC dX3_follow_35 (by decide) ?_
      refine ax_callVv (st := []) hC [.int (nI (stp TF u 0)), .int (nI (stp TG v 0)), .int hh, .int 46] hHo rfl (c_X3_add l D z B lo _ h hn cm (stp TF u 0) (stp TG v 0) _ hh 46 _ hH (Nat.lt_of_lt_of_le (stp_eq hwF u 0).2 hwF.1) (Nat.lt_of_lt_of_le (stp_eq hwG v 0).2 hwG.1)) (cwV 4 hC.1.2.2.2.2 gX3_follow_X3_add rfl rfl rfl (by decide +kernel) ⟨Nat.le_of_ble_eq_true rfl, Nat.le_of_ble_eq_true rfl⟩) rfl rfl (Nat.le_of_ble_eq_true rfl) dX3_follow_37 ⟨Nat.le_of_ble_eq_true rfl, Nat.le_of_ble_eq_true rfl⟩ (fun hi33 h34 hp35 => ?_)
      obtain ⟨ei36, fr37, hL38⟩ := hp35
      replace ei36 := ei36.symm
      subst ei36
      obtain ⟨_, _, _, _, _, hL38o, -⟩ := id hL38
      have hp_39 : PrC z h34 aF _ TF := hF.kept (fun q _ _ => fr37 q (by omega))
      have hp_40 : PrC z h34 aG _ TG := hG.kept (fun q _ _ => fr37 q (by omega))
      refine ax_iload hC 0 dX3_follow_40 rfl ?_
      refine ax_iconst (v := 3) hC dX3_follow_42 (by decide) ?_
      refine ax_icmp_eq (tgt := 53) hC dX3_follow_43 (by decide) (fun c41 => ?_) (fun c41 => ?_)
      · exact absurd (c18.symm.trans c41) (by decide)
      · refine ax_iload hC 0 dX3_follow_46 rfl ?_
        refine ax_iconst (v := 4) hC dX3_follow_48 (by decide) ?_
        refine ax_icmp_eq (tgt := 53) hC dX3_follow_49 (by decide) (fun c42 => ?_) (fun c42 => ?_)
        · exact absurd (c18.symm.trans c42) (by decide)
        · refine ax_vret hC hr hlocks dX3_follow_52 ?_
          exact ⟨rfl, fun q hq => (fr37 q (by omega)), by rw [fol, if_pos (Or.inr c18)]; exact hL38⟩
