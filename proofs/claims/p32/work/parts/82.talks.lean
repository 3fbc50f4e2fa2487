theorem lab_0 {T : PT} (hw : wfP T) {u : Nat} (hu : u < pcap T) (hk : pK T u = 3) : ¬ (pLb T u >>> (nI 0 &&& 31)) &&& 1 = 0 := by
  rcases (hw.2.2.2.2.2 u hu).1 (Or.inl hk) with e | e <;> (rw [e]; decide)
theorem b01 (x : Nat) : nI (x % 2) = 0 ∨ nI (x % 2) = 1 := by
  rcases Nat.mod_two_eq_zero_or_one x with e | e
  · exact Or.inl (by rw [e]; rfl)
  · exact Or.inr (by rw [e]; rfl)
theorem nI_shr2 {v : Nat} (hv : v < 2 ^ 31) : nI v >>> ((2 : Int32) &&& 31) = nI (v / 4) := by
  have hl : v / 2 ^ 2 ≤ v := Nat.div_le_self _ _
  apply Int32.toInt_inj.mp
  show (nI v >>> _).toBitVec.toInt = _
  rw [Int32.toBitVec_shiftRight, show ((2 : Int32) &&& 31).toBitVec.smod 32 = BitVec.ofNat 32 2 from by decide]
  show (BitVec.sshiftRight (nI v).toBitVec (BitVec.ofNat 32 2).toNat).toInt = _
  rw [BitVec.toInt_sshiftRight, BitVec.toNat_ofNat, Nat.mod_eq_of_lt (by omega)]
  show (nI v).toInt >>> 2 = _
  rw [nI_toInt hv, nI_toInt (show v / 4 < 2 ^ 31 by omega), Int.shiftRight_eq_div_pow]
  rfl

abbrev rmL_talks : Room := { frames := 6, cells := 0, slots := 0, locals := 138 }
set_option maxRecDepth 100000 in
set_option maxHeartbeats 4000000 in
theorem c_L_talks (l : Launch) (D : va_G) (z : Nat → ClassId) (B : Heap) (lo hi : Nat) (h : Nat → Option va_E) (kr kv : Nat → Nat) (o sn fr ss rr p9 q9 a1 a2 : Nat) (on kp gv nd1 nd2 : Int32) (T1 T2 : PT) (hO : ObS h o on kp) (hR : (∃ st dn wt br ed : Int32, RmS z h (o + 41) (nI ss) (nI rr) st dn wt br gv ed ∧ st = dn + wt + br)) (hA1 : EndI z h (o + 41 + 5 + 2 * (2 * sn)) (nI p9) a1 T1) (hA2 : EndI z h (o + 41 + 5 + 2 * (2 * sn + 1)) (nI q9) a2 T2) (hBl : (∃ (pa st9 nu en9 ca : Int32) (cf : Nat → Int32), BlmS z h (o + 41 + 3) pa st9 nu en9 ca cf)) (hQ1 : PrC z h a1 nd1 T1) (hQ2 : PrC z h a2 nd2 T2) (hw1 : wfP T1) (hD1 : wfD T1) (hw2 : wfP T2) (hD2 : wfD T2) (ha1 : o + 147 ≤ a1) (ha2 : o + 147 ≤ a2) (hsn : sn < ss) (hss : ss ≤ 8) (hrr : rr ≤ 4) (hp9 : p9 < 4) (hq9 : q9 < 4) (hfr0 : fr ≤ 200) : Met l yL_talks wsL_talks rmL_talks (KPs D vwCl B lo hi h kr kv (ty6 z) [.ref o, .int (nI sn), .ref (kr 19), .int (nI fr), .int 24]) (KQi D vwCl B lo (ty6 z) (fun r hi' h' => r = 1 ∧ hi' = hi ∧ (∀ q, ¬ q = o + 41 → (q < o + 41 + 5 + 2 * (2 * sn) ∨ o + 41 + 5 + 2 * (2 * sn) + 4 ≤ q) → (q < o + 41 + 3 ∨ o + 41 + 3 + 2 ≤ q) → h' q = h q) ∧ ObS h' o on kp ∧ (∃ st dn wt br ed : Int32, RmS z h' (o + 41) (nI ss) (nI rr) st dn wt br gv ed ∧ st = dn + wt + br) ∧ EndI z h' (o + 41 + 5 + 2 * (2 * sn)) (nI p9) a1 T1 ∧ EndI z h' (o + 41 + 5 + 2 * (2 * sn + 1)) (nI q9) a2 T2 ∧ (∃ (pa st9 nu en9 ca : Int32) (cf : Nat → Int32), BlmS z h' (o + 41 + 3) pa st9 nu en9 ca cf) ∧ PrC z h' a1 nd1 T1 ∧ PrC z h' a2 nd2 T2)) 0 0 (fun q => lo ≤ q) := by
  refine ax_metS (by decide) rfl (Nat.le_of_ble_eq_true rfl) (L0 := [(0, .ref o), (1, .int (nI sn)), (2, .ref (kr 19)), (3, .int (nI fr)), (4, .int 24)]) rfl ?_
  intro p e s m args below meth c hC hX hr hlocks hnm hargs
  have loop : ∀ (n : Nat) (ii : Nat) (hx : Nat → Option va_E), ii + n = 24 → ObS hx o on kp → (∃ st dn wt br ed : Int32, RmS z hx (o + 41) (nI ss) (nI rr) st dn wt br gv ed ∧ st = dn + wt + br) → EndI z hx (o + 41 + 5 + 2 * (2 * sn)) (nI p9) a1 T1 → EndI z hx (o + 41 + 5 + 2 * (2 * sn + 1)) (nI q9) a2 T2 → (∃ (pa st9 nu en9 ca : Int32) (cf : Nat → Int32), BlmS z hx (o + 41 + 3) pa st9 nu en9 ca cf) → PrC z hx a1 nd1 T1 → PrC z hx a2 nd2 T2 → (∀ q, ¬ q = o + 41 → (q < o + 41 + 5 + 2 * (2 * sn) ∨ o + 41 + 5 + 2 * (2 * sn) + 4 ≤ q) → (q < o + 41 + 3 ∨ o + 41 + 3 + 2 ≤ q) → hx q = h q) → Gx p l e rmL_talks s m args below meth c D vwCl B lo 13 (MQ below (KQi D vwCl B lo (ty6 z) (fun r hi' h' => r = 1 ∧ hi' = hi ∧ (∀ q, ¬ q = o + 41 → (q < o + 41 + 5 + 2 * (2 * sn) ∨ o + 41 + 5 + 2 * (2 * sn) + 4 ≤ q) → (q < o + 41 + 3 ∨ o + 41 + 3 + 2 ≤ q) → h' q = h q) ∧ ObS h' o on kp ∧ (∃ st dn wt br ed : Int32, RmS z h' (o + 41) (nI ss) (nI rr) st dn wt br gv ed ∧ st = dn + wt + br) ∧ EndI z h' (o + 41 + 5 + 2 * (2 * sn)) (nI p9) a1 T1 ∧ EndI z h' (o + 41 + 5 + 2 * (2 * sn + 1)) (nI q9) a2 T2 ∧ (∃ (pa st9 nu en9 ca : Int32) (cf : Nat → Int32), BlmS z h' (o + 41 + 3) pa st9 nu en9 ca cf) ∧ PrC z h' a1 nd1 T1 ∧ PrC z h' a2 nd2 T2)) args s 0 0 (fun q => lo ≤ q)) hi hx 0 0 [(5, .int (nI ii)), (0, .ref o), (1, .int (nI sn)), (2, .ref (kr 19)), (3, .int (nI fr)), (4, .int 24)] 3 [] := by
    intro n
    induction n with
    | zero =>
      intro ii hx hkn hOx hRx hE1 hE2 hBx hP1 hP2 hfr
      refine ax_iload hC 0 dL_talks_3 rfl ?_
      refine ax_iload hC 5 dL_talks_5 rfl ?_
      refine ax_icmp_ge (tgt := 271) hC dL_talks_7 (by decide) (fun c145001 => ?_) (fun c145001 => ?_)
      · refine ax_iconst (v := 1) hC dL_talks_271 (by decide) ?_
        refine ax_zret hC hr hlocks dL_talks_272 (by decide) ?_
        exact ⟨rfl, rfl, hfr, hOx, hRx, hE1, hE2, hBx, hP1, hP2⟩
      · exact absurd (show (24 : Int32) ≤ nI ii from nI_le (a := 24) (by omega) (by omega)) c145001
    | succ n ih =>
      intro ii hx hkn hOx hRx hE1 hE2 hBx hP1 hP2 hfr
      refine ax_iload hC 0 dL_talks_3 rfl ?_
      refine ax_iload hC 5 dL_talks_5 rfl ?_
      refine ax_icmp_ge (tgt := 271) hC dL_talks_7 (by decide) (fun c146001 => ?_) (fun c146001 => ?_)
      · exact absurd ((nI_leI (a := 24) (by decide) (by omega)).mp c146001) (by omega)
      · refine ax_aload_n hC 3 dL_talks_10 rfl rfl ?_
        refine ax_iload_n hC 4 dL_talks_11 rfl rfl ?_
        refine ax_iload hC 0 dL_talks_12 rfl ?_
        refine ax_iadd hC dL_talks_14 ?_
        refine ax_eqi (y := nI (fr + ii)) (nI_add _ _) ?_
        refine ax_sSp (mc := 0) (ms := 0) (st := []) hC hX [.ref (kr 19), .int (nI (fr + ii))] (c_L_cell l D z B lo _ _ kr kv (fr + ii) (by omega)) (va_cwS 2 hC.1.2.2.2.2 gL_talks_L_cell rfl rfl rfl (by decide +kernel) ⟨Nat.le_of_ble_eq_true rfl, Nat.le_of_ble_eq_true rfl⟩) rfl rfl (Nat.le_of_ble_eq_true rfl) dL_talks_15 ⟨Nat.le_of_ble_eq_true rfl, Nat.le_of_ble_eq_true rfl⟩ (fun r146002 er146003 => ?_)
        subst er146003
        have hcv : cnV kv (fr + ii) < 2 ^ 27 := cnV_lt (by omega)
        refine ax_istore hC [(6, .int (nI (cnV kv (fr + ii)))), (5, .int (nI ii)), (0, .ref o), (1, .int (nI sn)), (2, .ref (kr 19)), (3, .int (nI fr)), (4, .int 24)] dL_talks_18 (by decide) rfl ?_
        refine ax_iconst (v := 2) hC dL_talks_20 (by decide) ?_
        refine ax_iload_n hC 3 dL_talks_21 rfl rfl ?_
        refine ax_imul hC dL_talks_22 ?_
        refine ax_eqi (y := nI (2 * sn)) (nI_mul 2 sn) ?_
        refine ax_iload hC 0 dL_talks_23 rfl ?_
        refine ax_iconst (v := 1) hC dL_talks_25 (by decide) ?_
        refine ax_iand hC dL_talks_26 ?_
        refine ax_eqi (y := nI (cnV kv (fr + ii) % 2)) ((nI_mask _).2.1) ?_
        refine ax_iadd hC dL_talks_27 ?_
        refine ax_eqi (y := nI (2 * sn + cnV kv (fr + ii) % 2)) (nI_add _ _) ?_
        obtain ⟨ee, ff, pn, pm, a, b, T, U, nd, ne9, k1, k2, k3, k4, k5, k6, k7, k8, hEe, hEf, hPa, hPb, wa, da, oa, back⟩ : ∃ (ee ff pn pm a b : Nat) (T U : PT) (nd ne9 : Int32), 2 * sn + cnV kv (fr + ii) % 2 = ee ∧ ee < 16 ∧ ff < 16 ∧ ¬ ee = ff ∧ nI ee ^^^ 1 = nI ff ∧ ee < 2 * ss ∧ pn < 4 ∧ ((ee = 2 * sn ∧ ff = 2 * sn + 1) ∨ (ee = 2 * sn + 1 ∧ ff = 2 * sn)) ∧ EndI z hx (o + 41 + 5 + 2 * ee) (nI pn) a T ∧ EndI z hx (o + 41 + 5 + 2 * ff) (nI pm) b U ∧ PrC z hx a nd T ∧ PrC z hx b ne9 U ∧ wfP T ∧ wfD T ∧ o + 147 ≤ a ∧ ∀ hz : Nat → Option va_E, EndI z hz (o + 41 + 5 + 2 * ee) (nI pn) a T → EndI z hz (o + 41 + 5 + 2 * ff) (nI pm) b U → EndI z hz (o + 41 + 5 + 2 * (2 * sn)) (nI p9) a1 T1 ∧ EndI z hz (o + 41 + 5 + 2 * (2 * sn + 1)) (nI q9) a2 T2 := by
          rcases Nat.mod_two_eq_zero_or_one (cnV kv (fr + ii)) with e9 | e9
          · exact ⟨2 * sn, 2 * sn + 1, p9, q9, a1, a2, T1, T2, nd1, nd2, by omega, by omega, by omega, by omega, (xor1 _ (by omega)).trans (by rw [if_pos (by omega)]), by omega, hp9, Or.inl ⟨rfl, rfl⟩, hE1, hE2, hP1, hP2, hw1, hD1, ha1, fun hz u v => ⟨u, v⟩⟩
          · exact ⟨2 * sn + 1, 2 * sn, q9, p9, a2, a1, T2, T1, nd2, nd1, by omega, by omega, by omega, by omega, (xor1 _ (by omega)).trans (by rw [if_neg (by omega)]; exact congrArg nI (by omega)), by omega, hq9, Or.inr ⟨rfl, rfl⟩, hE2, hE1, hP2, hP1, hw2, hD2, ha2, fun hz u v => ⟨v, u⟩⟩
        refine ax_eqi (y := nI ee) (congrArg nI k1) ?_
        have hcp : pcap T ≤ 60 := wa.1
        obtain ⟨n1, en, es, q1, mo, lf, hEn, hnn, hst9, hq, hlf, hen⟩ := id hEe
        obtain ⟨n2, en2, es2, q2, mo2, lf2, hG, hn2, hst2, hq2, hlf2, hen2⟩ := id hEf
        obtain ⟨st, dn, wt, br, ed, hRm, hsum⟩ := id hRx
        obtain ⟨pa, st9, nu, en9, ca, cf, hB⟩ := id hBx
        refine ax_istore hC [(7, .int (nI ee)), (6, .int (nI (cnV kv (fr + ii)))), (5, .int (nI ii)), (0, .ref o), (1, .int (nI sn)), (2, .ref (kr 19)), (3, .int (nI fr)), (4, .int 24)] dL_talks_28 (by decide) rfl ?_
        refine ax_aload_n hC 3 dL_talks_30 rfl rfl ?_
        refine ax_iload hC 0 dL_talks_31 rfl ?_
        refine ax_iconst (v := 0) hC dL_talks_33 (by decide) ?_
        refine ax_callVp (st := []) hC [.int (nI ee), .int 0] hOx rfl (c_X11_look_0 l D z B lo _ hx o on kp ss (nI rr) st dn wt br gv ed ee a n1 q1 (nI pn) en es mo nd lf T hOx hRm hEn hPa hcp hnn k2 hss k6 hen) (cwV 2 hC.1.2.2.2.2 gL_talks_X11_look rfl rfl rfl (by decide +kernel) ⟨Nat.le_of_ble_eq_true rfl, Nat.le_of_ble_eq_true rfl⟩) rfl rfl (Nat.le_of_ble_eq_true rfl) dL_talks_34 ⟨Nat.le_of_ble_eq_true rfl, Nat.le_of_ble_eq_true rfl⟩ (fun r146004 er146005 => ?_)
        rw [er146005]
        refine ax_istore hC [(8, .int (nI pn)), (7, .int (nI ee)), (6, .int (nI (cnV kv (fr + ii)))), (5, .int (nI ii)), (0, .ref o), (1, .int (nI sn)), (2, .ref (kr 19)), (3, .int (nI fr)), (4, .int 24)] dL_talks_37 (by decide) rfl ?_
        refine ax_aload_n hC 4 dL_talks_39 rfl rfl ?_
        refine ax_iload hC 1 dL_talks_40 rfl ?_
        refine ax_iconst (v := 2) hC dL_talks_42 (by decide) ?_
        refine ax_callVp (st := []) hC [.int (nI ee), .int 2] hOx rfl (c_X11_look_2 l D z B lo _ hx o on kp ss (nI rr) st dn wt br gv ed ee a n1 q1 (nI pn) en es mo nd lf T hOx hRm hEn hPa hcp hnn k2 hss k6 hen) (cwV 2 hC.1.2.2.2.2 gL_talks_X11_look rfl rfl rfl (by decide +kernel) ⟨Nat.le_of_ble_eq_true rfl, Nat.le_of_ble_eq_true rfl⟩) rfl rfl (Nat.le_of_ble_eq_true rfl) dL_talks_43 ⟨Nat.le_of_ble_eq_true rfl, Nat.le_of_ble_eq_true rfl⟩ (fun r146006 er146007 => ?_)
        rw [er146007]
        refine ax_istore hC [(9, .int (pLb T n1)), (8, .int (nI pn)), (7, .int (nI ee)), (6, .int (nI (cnV kv (fr + ii)))), (5, .int (nI ii)), (0, .ref o), (1, .int (nI sn)), (2, .ref (kr 19)), (3, .int (nI fr)), (4, .int 24)] dL_talks_46 (by decide) rfl ?_
        refine ax_aload_n hC 5 dL_talks_48 rfl rfl ?_
        refine ax_iload hC 2 dL_talks_49 rfl ?_
        refine ax_iconst (v := 1) hC dL_talks_51 (by decide) ?_
        refine ax_callVp (st := []) hC [.int (nI ee), .int 1] hOx rfl (c_X11_look_1 l D z B lo _ hx o on kp ss (nI rr) st dn wt br gv ed ee a n1 q1 (nI pn) en es mo nd lf T hOx hRm hEn hPa hcp hnn k2 hss k6 hen) (cwV 2 hC.1.2.2.2.2 gL_talks_X11_look rfl rfl rfl (by decide +kernel) ⟨Nat.le_of_ble_eq_true rfl, Nat.le_of_ble_eq_true rfl⟩) rfl rfl (Nat.le_of_ble_eq_true rfl) dL_talks_52 ⟨Nat.le_of_ble_eq_true rfl, Nat.le_of_ble_eq_true rfl⟩ (fun r146008 er146009 => ?_)
        rw [er146009]
        refine ax_istore hC [(10, .int (pK T n1)), (9, .int (pLb T n1)), (8, .int (nI pn)), (7, .int (nI ee)), (6, .int (nI (cnV kv (fr + ii)))), (5, .int (nI ii)), (0, .ref o), (1, .int (nI sn)), (2, .ref (kr 19)), (3, .int (nI fr)), (4, .int 24)] dL_talks_55 (by decide) rfl ?_
        refine ax_aload_n hC 6 dL_talks_57 rfl rfl ?_
        refine ax_iload hC 3 dL_talks_58 rfl ?_
        refine ax_iconst (v := 5) hC dL_talks_60 (by decide) ?_
        refine ax_callVp (st := []) hC [.int (nI ee), .int 5] hOx rfl (c_X11_look_5 l D z B lo _ hx o on kp ss (nI rr) st dn wt br gv ed ee a n1 q1 (nI pn) en es mo nd lf T hOx hRm hEn hPa hcp hnn k2 hss k6 hen) (cwV 2 hC.1.2.2.2.2 gL_talks_X11_look rfl rfl rfl (by decide +kernel) ⟨Nat.le_of_ble_eq_true rfl, Nat.le_of_ble_eq_true rfl⟩) rfl rfl (Nat.le_of_ble_eq_true rfl) dL_talks_61 ⟨Nat.le_of_ble_eq_true rfl, Nat.le_of_ble_eq_true rfl⟩ (fun r146010 er146011 => ?_)
        rw [er146011]
        refine ax_iconst (v := 1) hC dL_talks_64 (by decide) ?_
        refine ax_icmp_ne (tgt := 71) hC dL_talks_65 (by decide) (fun c146012 => ?_) (fun c146012 => ?_)
        · have he0 : en = 0 := hen.resolve_right c146012
          subst he0
          rcases id hst9 with hk | hk | hk | hk | hk
          · rw [hk]
            refine ax_iconst (v := 0) hC dL_talks_71 (by decide) ?_
            refine ax_istore hC [(11, .int 0), (10, .int 0), (9, .int (pLb T n1)), (8, .int (nI pn)), (7, .int (nI ee)), (6, .int (nI (cnV kv (fr + ii)))), (5, .int (nI ii)), (0, .ref o), (1, .int (nI sn)), (2, .ref (kr 19)), (3, .int (nI fr)), (4, .int 24)] dL_talks_72 (by decide) rfl ?_
            refine ax_iload hC 1 dL_talks_74 rfl ?_
            refine ax_if_ne (tgt := 89) hC dL_talks_76 (by decide) (fun c146013 => ?_) (fun c146013 => ?_)
            · exact absurd c146013 (by decide)
            · refine ax_aload_n hC 7 dL_talks_79 rfl rfl ?_
              refine ax_iload hC 3 dL_talks_80 rfl ?_
              refine ax_iload hC 4 dL_talks_82 rfl ?_
              refine ax_callVi (st := []) hC [.int (nI pn), .int (nI ee)] hOx rfl (c_X11_end l D z B lo _ hx o on kp ss rr pn (nI rr) st dn wt br gv ed ee a n1 q1 es mo nd lf T ff b n2 q2 (nI pm) en2 es2 mo2 lf2 U pa st9 nu en9 ca cf hOx hRm hEn hPa hcp hnn k2 hG k3 k4 k5 hq hq2 hB wa da hst9 hk oa hn2 hst2 hlf hlf2 hen2 hsum rfl hrr k7 hss k6) (cwV 2 hC.1.2.2.2.2 gL_talks_X11_end rfl rfl rfl (by decide +kernel) ⟨Nat.le_of_ble_eq_true rfl, Nat.le_of_ble_eq_true rfl⟩) rfl rfl (Nat.le_of_ble_eq_true rfl) dL_talks_84 ⟨Nat.le_of_ble_eq_true rfl, Nat.le_of_ble_eq_true rfl⟩ (fun r146014 hi146015 h146016 hp146017 => ?_)
              obtain ⟨i_h146016, f_h146016, ⟨st_h146016, dn_h146016, wt_h146016, br_h146016, ed_h146016, R_h146016, su_h146016⟩, E_h146016, F_h146016, ⟨pa_h146016, s9_h146016, nu_h146016, e9_h146016, ca_h146016, cf_h146016, B_h146016, b6_h146016⟩, r_h146016⟩ := hp146017
              subst i_h146016
              have O_h146016 : ObS h146016 o on kp := hOx.kept (fun q _ _ => f_h146016 q (by omega) (by omega) (by omega) (by omega))
              have Pa_h146016 : PrC z h146016 a nd T := hPa.kept (fun q _ _ => f_h146016 q (by omega) (by omega) (by omega) (by omega))
              obtain ⟨n_h146016, en_h146016, es_h146016, q_h146016, mo_h146016, lf_h146016, En_h146016, hn_h146016, ks_h146016, hq_h146016, hl_h146016, he_h146016⟩ := id E_h146016
              rcases r_h146016 with r146014e | r146014e | r146014e
              · subst r146014e
                obtain ⟨v1_h146016, v2_h146016, v3_h146016⟩ := b6_h146016 rfl
                subst v1_h146016; subst v2_h146016
                refine ax_istore hC [(11, .int (-6)), (10, .int 0), (9, .int (pLb T n1)), (8, .int (nI pn)), (7, .int (nI ee)), (6, .int (nI (cnV kv (fr + ii)))), (5, .int (nI ii)), (0, .ref o), (1, .int (nI sn)), (2, .ref (kr 19)), (3, .int (nI fr)), (4, .int 24)] dL_talks_87 (by decide) rfl ?_
                refine ax_iload hC 1 dL_talks_89 rfl ?_
                refine ax_iconst (v := 1) hC dL_talks_91 (by decide) ?_
                refine ax_icmp_ne (tgt := 111) hC dL_talks_92 (by decide) (fun c146018 => ?_) (fun c146018 => ?_)
                · refine ax_iload hC 1 dL_talks_111 rfl ?_
                  refine ax_iconst (v := 2) hC dL_talks_113 (by decide) ?_
                  refine ax_icmp_ne (tgt := 127) hC dL_talks_114 (by decide) (fun c146019 => ?_) (fun c146019 => ?_)
                  · refine ax_iload hC 1 dL_talks_127 rfl ?_
                    refine ax_iconst (v := 4) hC dL_talks_129 (by decide) ?_
                    refine ax_icmp_ne (tgt := 143) hC dL_talks_130 (by decide) (fun c146020 => ?_) (fun c146020 => ?_)
                    · refine ax_iload hC 1 dL_talks_143 rfl ?_
                      refine ax_iconst (v := 3) hC dL_talks_145 (by decide) ?_
                      refine ax_icmp_ne (tgt := 195) hC dL_talks_146 (by decide) (fun c146021 => ?_) (fun c146021 => ?_)
                      · refine ax_iload hC 0 dL_talks_195 rfl ?_
                        refine ax_bipush (v := (-6)) hC dL_talks_197 (by decide) ?_
                        refine ax_icmp_ne (tgt := 213) hC dL_talks_199 (by decide) (fun c146022 => ?_) (fun c146022 => ?_)
                        · exact absurd c146022 (by decide)
                        · refine ax_aload_n hC 7 dL_talks_202 rfl rfl ?_
                          refine ax_iconst (v := 2) hC dL_talks_203 (by decide) ?_
                          refine ax_callVp (st := []) hC [.int 2] O_h146016 rfl (c_X11_blame_2 l D z B lo _ h146016 o on kp ss (nI rr) st_h146016 dn_h146016 wt_h146016 br_h146016 gv ed_h146016 pa_h146016 s9_h146016 e9_h146016 cf_h146016 O_h146016 R_h146016 B_h146016) (cwV 1 hC.1.2.2.2.2 gL_talks_X11_blame rfl rfl rfl (by decide +kernel) ⟨Nat.le_of_ble_eq_true rfl, Nat.le_of_ble_eq_true rfl⟩) rfl rfl (Nat.le_of_ble_eq_true rfl) dL_talks_204 ⟨Nat.le_of_ble_eq_true rfl, Nat.le_of_ble_eq_true rfl⟩ (fun r146023 er146024 => ?_)
                          subst er146024
                          refine ax_iconst (v := 3) hC dL_talks_207 (by decide) ?_
                          refine ax_icmp_eq (tgt := 213) hC dL_talks_208 (by decide) (fun c146025 => ?_) (fun c146025 => ?_)
                          · refine ax_iload hC 0 dL_talks_213 rfl ?_
                            refine ax_bipush (v := (-6)) hC dL_talks_215 (by decide) ?_
                            refine ax_icmp_ne (tgt := 240) hC dL_talks_217 (by decide) (fun c146026 => ?_) (fun c146026 => ?_)
                            · exact absurd c146026 (by decide)
                            · refine ax_aload_n hC 7 dL_talks_220 rfl rfl ?_
                              refine ax_iconst (v := 5) hC dL_talks_221 (by decide) ?_
                              refine ax_callVp (st := []) hC [.int 5] O_h146016 rfl (c_X11_blame_5 l D z B lo _ h146016 o on kp ss (nI rr) st_h146016 dn_h146016 wt_h146016 br_h146016 gv ed_h146016 pa_h146016 s9_h146016 e9_h146016 cf_h146016 O_h146016 R_h146016 B_h146016) (cwV 1 hC.1.2.2.2.2 gL_talks_X11_blame rfl rfl rfl (by decide +kernel) ⟨Nat.le_of_ble_eq_true rfl, Nat.le_of_ble_eq_true rfl⟩) rfl rfl (Nat.le_of_ble_eq_true rfl) dL_talks_222 ⟨Nat.le_of_ble_eq_true rfl, Nat.le_of_ble_eq_true rfl⟩ (fun r146027 er146028 => ?_)
                              subst er146028
                              refine ax_aload_n hC 7 dL_talks_225 rfl rfl ?_
                              refine ax_bipush (v := 6) hC dL_talks_226 (by decide) ?_
                              refine ax_callVp (st := [.int (cf_h146016 0)]) hC [.int 6] O_h146016 rfl (c_X11_blame_6 l D z B lo _ h146016 o on kp ss (nI rr) st_h146016 dn_h146016 wt_h146016 br_h146016 gv ed_h146016 pa_h146016 s9_h146016 e9_h146016 cf_h146016 O_h146016 R_h146016 B_h146016) (cwV 1 hC.1.2.2.2.2 gL_talks_X11_blame rfl rfl rfl (by decide +kernel) ⟨Nat.le_of_ble_eq_true rfl, Nat.le_of_ble_eq_true rfl⟩) rfl rfl (Nat.le_of_ble_eq_true rfl) dL_talks_228 ⟨Nat.le_of_ble_eq_true rfl, Nat.le_of_ble_eq_true rfl⟩ (fun r146029 er146030 => ?_)
                              subst er146030
                              refine ax_icmp_ne (tgt := 238) hC dL_talks_231 (by decide) (fun c146031 => ?_) (fun c146031 => ?_)
                              · exact absurd v3_h146016 c146031
                              · refine ax_iconst (v := 1) hC dL_talks_234 (by decide) ?_
                                refine ax_goto (tgt := 239) hC dL_talks_235 (by decide) ?_
                                refine ax_zret hC hr hlocks dL_talks_239 (by decide) ?_
                                exact ⟨rfl, rfl, (fun q g1 g2 g3 => (f_h146016 q g1 (by omega) (by omega) g3).trans (hfr q g1 g2 g3)), O_h146016, ⟨_, _, _, _, _, R_h146016, su_h146016⟩, (back h146016 E_h146016 F_h146016).1, (back h146016 E_h146016 F_h146016).2, ⟨_, _, _, _, _, _, B_h146016⟩, (hP1.kept (fun q _ _ => f_h146016 q (by omega) (by omega) (by omega) (by omega))), (hP2.kept (fun q _ _ => f_h146016 q (by omega) (by omega) (by omega) (by omega)))⟩
                          · exact absurd c146025 (by decide)
                      · exact absurd c146021 (by decide)
                    · exact absurd c146020 (by decide)
                  · exact absurd c146019 (by decide)
                · exact absurd c146018 (by decide)
              · subst r146014e
                refine ax_istore hC [(11, .int (-4)), (10, .int 0), (9, .int (pLb T n1)), (8, .int (nI pn)), (7, .int (nI ee)), (6, .int (nI (cnV kv (fr + ii)))), (5, .int (nI ii)), (0, .ref o), (1, .int (nI sn)), (2, .ref (kr 19)), (3, .int (nI fr)), (4, .int 24)] dL_talks_87 (by decide) rfl ?_
                refine ax_iload hC 1 dL_talks_89 rfl ?_
                refine ax_iconst (v := 1) hC dL_talks_91 (by decide) ?_
                refine ax_icmp_ne (tgt := 111) hC dL_talks_92 (by decide) (fun c146032 => ?_) (fun c146032 => ?_)
                · refine ax_iload hC 1 dL_talks_111 rfl ?_
                  refine ax_iconst (v := 2) hC dL_talks_113 (by decide) ?_
                  refine ax_icmp_ne (tgt := 127) hC dL_talks_114 (by decide) (fun c146033 => ?_) (fun c146033 => ?_)
                  · refine ax_iload hC 1 dL_talks_127 rfl ?_
                    refine ax_iconst (v := 4) hC dL_talks_129 (by decide) ?_
                    refine ax_icmp_ne (tgt := 143) hC dL_talks_130 (by decide) (fun c146034 => ?_) (fun c146034 => ?_)
                    · refine ax_iload hC 1 dL_talks_143 rfl ?_
                      refine ax_iconst (v := 3) hC dL_talks_145 (by decide) ?_
                      refine ax_icmp_ne (tgt := 195) hC dL_talks_146 (by decide) (fun c146035 => ?_) (fun c146035 => ?_)
                      · refine ax_iload hC 0 dL_talks_195 rfl ?_
                        refine ax_bipush (v := (-6)) hC dL_talks_197 (by decide) ?_
                        refine ax_icmp_ne (tgt := 213) hC dL_talks_199 (by decide) (fun c146036 => ?_) (fun c146036 => ?_)
                        · refine ax_iload hC 0 dL_talks_213 rfl ?_
                          refine ax_bipush (v := (-6)) hC dL_talks_215 (by decide) ?_
                          refine ax_icmp_ne (tgt := 240) hC dL_talks_217 (by decide) (fun c146037 => ?_) (fun c146037 => ?_)
                          · refine ax_iload hC 0 dL_talks_240 rfl ?_
                            refine ax_bipush (v := (-4)) hC dL_talks_242 (by decide) ?_
                            refine ax_icmp_eq (tgt := 252) hC dL_talks_244 (by decide) (fun c146038 => ?_) (fun c146038 => ?_)
                            · refine ax_aload_n hC 7 dL_talks_252 rfl rfl ?_
                              refine ax_iload hC 4 dL_talks_253 rfl ?_
                              refine ax_iconst (v := 3) hC dL_talks_255 (by decide) ?_
                              refine ax_callVp (st := []) hC [.int (nI ee), .int 3] O_h146016 rfl (c_X11_look_3 l D z B lo _ h146016 o on kp ss (nI rr) st_h146016 dn_h146016 wt_h146016 br_h146016 gv ed_h146016 ee a n_h146016 q_h146016 (nI pn) en_h146016 es_h146016 mo_h146016 nd lf_h146016 T O_h146016 R_h146016 En_h146016 Pa_h146016 hcp hn_h146016 k2 hss k6 he_h146016) (cwV 2 hC.1.2.2.2.2 gL_talks_X11_look rfl rfl rfl (by decide +kernel) ⟨Nat.le_of_ble_eq_true rfl, Nat.le_of_ble_eq_true rfl⟩) rfl rfl (Nat.le_of_ble_eq_true rfl) dL_talks_256 ⟨Nat.le_of_ble_eq_true rfl, Nat.le_of_ble_eq_true rfl⟩ (fun r146039 er146040 => ?_)
                              rw [er146040]
                              refine ax_iconst (v := 4) hC dL_talks_259 (by decide) ?_
                              refine ax_icmp_le (tgt := 265) hC dL_talks_260 (by decide) (fun c146041 => ?_) (fun c146041 => ?_)
                              · refine ax_iinc (v := nI (ii + 1)) hC 6 [(5, .int (nI (ii + 1))), (11, .int (-4)), (10, .int 0), (9, .int (pLb T n1)), (8, .int (nI pn)), (7, .int (nI ee)), (6, .int (nI (cnV kv (fr + ii)))), (0, .ref o), (1, .int (nI sn)), (2, .ref (kr 19)), (3, .int (nI fr)), (4, .int 24)] dL_talks_265 rfl (nI_1 _) (by decide) rfl ?_
                                refine ax_goto (tgt := 3) hC dL_talks_268 (by decide) ?_
                                refine ax_locals [0, 7, 8, 9, 10, 11] (L' := [(5, .int (nI (ii + 1))), (0, .ref o), (1, .int (nI sn)), (2, .ref (kr 19)), (3, .int (nI fr)), (4, .int 24)]) rfl ?_
                                exact ih (ii + 1) h146016 (by omega) O_h146016 ⟨_, _, _, _, _, R_h146016, su_h146016⟩ (back h146016 E_h146016 F_h146016).1 (back h146016 E_h146016 F_h146016).2 ⟨_, _, _, _, _, _, B_h146016⟩ (hP1.kept (fun q _ _ => f_h146016 q (by omega) (by omega) (by omega) (by omega))) (hP2.kept (fun q _ _ => f_h146016 q (by omega) (by omega) (by omega) (by omega))) (fun q g1 g2 g3 => (f_h146016 q g1 (by omega) (by omega) g3).trans (hfr q g1 g2 g3))
                              · exact absurd (nI_le (a := q_h146016) (b := 4) hq_h146016 (by decide)) c146041
                            · exact absurd c146038 (by decide)
                          · exact absurd c146037 (by decide)
                        · exact absurd c146036 (by decide)
                      · exact absurd c146035 (by decide)
                    · exact absurd c146034 (by decide)
                  · exact absurd c146033 (by decide)
                · exact absurd c146032 (by decide)
              · refine ax_istore hC [(11, .int r146014), (10, .int 0), (9, .int (pLb T n1)), (8, .int (nI pn)), (7, .int (nI ee)), (6, .int (nI (cnV kv (fr + ii)))), (5, .int (nI ii)), (0, .ref o), (1, .int (nI sn)), (2, .ref (kr 19)), (3, .int (nI fr)), (4, .int 24)] dL_talks_87 (by decide) rfl ?_
                refine ax_iload hC 1 dL_talks_89 rfl ?_
                refine ax_iconst (v := 1) hC dL_talks_91 (by decide) ?_
                refine ax_icmp_ne (tgt := 111) hC dL_talks_92 (by decide) (fun c146043 => ?_) (fun c146043 => ?_)
                · refine ax_iload hC 1 dL_talks_111 rfl ?_
                  refine ax_iconst (v := 2) hC dL_talks_113 (by decide) ?_
                  refine ax_icmp_ne (tgt := 127) hC dL_talks_114 (by decide) (fun c146044 => ?_) (fun c146044 => ?_)
                  · refine ax_iload hC 1 dL_talks_127 rfl ?_
                    refine ax_iconst (v := 4) hC dL_talks_129 (by decide) ?_
                    refine ax_icmp_ne (tgt := 143) hC dL_talks_130 (by decide) (fun c146045 => ?_) (fun c146045 => ?_)
                    · refine ax_iload hC 1 dL_talks_143 rfl ?_
                      refine ax_iconst (v := 3) hC dL_talks_145 (by decide) ?_
                      refine ax_icmp_ne (tgt := 195) hC dL_talks_146 (by decide) (fun c146046 => ?_) (fun c146046 => ?_)
                      · refine ax_iload hC 0 dL_talks_195 rfl ?_
                        refine ax_bipush (v := (-6)) hC dL_talks_197 (by decide) ?_
                        refine ax_icmp_ne (tgt := 213) hC dL_talks_199 (by decide) (fun c146047 => ?_) (fun c146047 => ?_)
                        · refine ax_iload hC 0 dL_talks_213 rfl ?_
                          refine ax_bipush (v := (-6)) hC dL_talks_215 (by decide) ?_
                          refine ax_icmp_ne (tgt := 240) hC dL_talks_217 (by decide) (fun c146048 => ?_) (fun c146048 => ?_)
                          · refine ax_iload hC 0 dL_talks_240 rfl ?_
                            refine ax_bipush (v := (-4)) hC dL_talks_242 (by decide) ?_
                            refine ax_icmp_eq (tgt := 252) hC dL_talks_244 (by decide) (fun c146049 => ?_) (fun c146049 => ?_)
                            · exact absurd (c146049 ▸ r146014e) (by decide)
                            · refine ax_iload hC 0 dL_talks_247 rfl ?_
                              refine ax_if_lt (tgt := 263) hC dL_talks_249 (by decide) (fun c146050 => ?_) (fun c146050 => ?_)
                              · exact absurd c146050 (Int32.not_lt.mpr r146014e)
                              · refine ax_aload_n hC 7 dL_talks_252 rfl rfl ?_
                                refine ax_iload hC 4 dL_talks_253 rfl ?_
                                refine ax_iconst (v := 3) hC dL_talks_255 (by decide) ?_
                                refine ax_callVp (st := []) hC [.int (nI ee), .int 3] O_h146016 rfl (c_X11_look_3 l D z B lo _ h146016 o on kp ss (nI rr) st_h146016 dn_h146016 wt_h146016 br_h146016 gv ed_h146016 ee a n_h146016 q_h146016 (nI pn) en_h146016 es_h146016 mo_h146016 nd lf_h146016 T O_h146016 R_h146016 En_h146016 Pa_h146016 hcp hn_h146016 k2 hss k6 he_h146016) (cwV 2 hC.1.2.2.2.2 gL_talks_X11_look rfl rfl rfl (by decide +kernel) ⟨Nat.le_of_ble_eq_true rfl, Nat.le_of_ble_eq_true rfl⟩) rfl rfl (Nat.le_of_ble_eq_true rfl) dL_talks_256 ⟨Nat.le_of_ble_eq_true rfl, Nat.le_of_ble_eq_true rfl⟩ (fun r146051 er146052 => ?_)
                                rw [er146052]
                                refine ax_iconst (v := 4) hC dL_talks_259 (by decide) ?_
                                refine ax_icmp_le (tgt := 265) hC dL_talks_260 (by decide) (fun c146053 => ?_) (fun c146053 => ?_)
                                · refine ax_iinc (v := nI (ii + 1)) hC 6 [(5, .int (nI (ii + 1))), (11, .int r146014), (10, .int 0), (9, .int (pLb T n1)), (8, .int (nI pn)), (7, .int (nI ee)), (6, .int (nI (cnV kv (fr + ii)))), (0, .ref o), (1, .int (nI sn)), (2, .ref (kr 19)), (3, .int (nI fr)), (4, .int 24)] dL_talks_265 rfl (nI_1 _) (by decide) rfl ?_
                                  refine ax_goto (tgt := 3) hC dL_talks_268 (by decide) ?_
                                  refine ax_locals [0, 7, 8, 9, 10, 11] (L' := [(5, .int (nI (ii + 1))), (0, .ref o), (1, .int (nI sn)), (2, .ref (kr 19)), (3, .int (nI fr)), (4, .int 24)]) rfl ?_
                                  exact ih (ii + 1) h146016 (by omega) O_h146016 ⟨_, _, _, _, _, R_h146016, su_h146016⟩ (back h146016 E_h146016 F_h146016).1 (back h146016 E_h146016 F_h146016).2 ⟨_, _, _, _, _, _, B_h146016⟩ (hP1.kept (fun q _ _ => f_h146016 q (by omega) (by omega) (by omega) (by omega))) (hP2.kept (fun q _ _ => f_h146016 q (by omega) (by omega) (by omega) (by omega))) (fun q g1 g2 g3 => (f_h146016 q g1 (by omega) (by omega) g3).trans (hfr q g1 g2 g3))
                                · exact absurd (nI_le (a := q_h146016) (b := 4) hq_h146016 (by decide)) c146053
                          · exact absurd c146048 c146047
                        · exact absurd (c146047 ▸ r146014e) (by decide)
                      · exact absurd c146046 (by decide)
                    · exact absurd c146045 (by decide)
                  · exact absurd c146044 (by decide)
                · exact absurd c146043 (by decide)
          · rw [hk]
            refine ax_iconst (v := 0) hC dL_talks_71 (by decide) ?_
            refine ax_istore hC [(11, .int 0), (10, .int 1), (9, .int (pLb T n1)), (8, .int (nI pn)), (7, .int (nI ee)), (6, .int (nI (cnV kv (fr + ii)))), (5, .int (nI ii)), (0, .ref o), (1, .int (nI sn)), (2, .ref (kr 19)), (3, .int (nI fr)), (4, .int 24)] dL_talks_72 (by decide) rfl ?_
            refine ax_iload hC 1 dL_talks_74 rfl ?_
            refine ax_if_ne (tgt := 89) hC dL_talks_76 (by decide) (fun c146055 => ?_) (fun c146055 => ?_)
            · refine ax_iload hC 1 dL_talks_89 rfl ?_
              refine ax_iconst (v := 1) hC dL_talks_91 (by decide) ?_
              refine ax_icmp_ne (tgt := 111) hC dL_talks_92 (by decide) (fun c146056 => ?_) (fun c146056 => ?_)
              · exact absurd c146056 (by decide)
              · refine ax_aload_n hC 7 dL_talks_95 rfl rfl ?_
                refine ax_iload hC 3 dL_talks_96 rfl ?_
                refine ax_iload hC 4 dL_talks_98 rfl ?_
                refine ax_iload hC 5 dL_talks_100 rfl ?_
                refine ax_iconst (v := 1) hC dL_talks_102 (by decide) ?_
                refine ax_ishr hC dL_talks_103 ?_
                refine ax_eqi (y := nI (cnV kv (fr + ii) / 2)) ((nI_shr (by omega)).2) ?_
                refine ax_iconst (v := 1) hC dL_talks_104 (by decide) ?_
                refine ax_iand hC dL_talks_105 ?_
                refine ax_eqi (y := nI (cnV kv (fr + ii) / 2 % 2)) ((nI_mask _).2.1) ?_
                refine ax_callVi (st := []) hC [.int (nI pn), .int (nI ee), .int (nI (cnV kv (fr + ii) / 2 % 2))] hOx rfl (c_X11_say l D z B lo _ hx o on kp ss rr pn (nI rr) st dn wt br gv ed ee a n1 q1 es mo nd lf T ff b n2 q2 (nI pm) en2 es2 mo2 lf2 U pa st9 nu en9 ca cf (nI (cnV kv (fr + ii) / 2 % 2)) hOx hRm hEn hPa hcp hnn k2 hG k3 k4 k5 hq hq2 hB wa da hst9 hk oa hn2 hst2 hlf hlf2 hen2 hsum rfl hrr k7 hss k6 (b01 _)) (cwV 3 hC.1.2.2.2.2 gL_talks_X11_say rfl rfl rfl (by decide +kernel) ⟨Nat.le_of_ble_eq_true rfl, Nat.le_of_ble_eq_true rfl⟩) rfl rfl (Nat.le_of_ble_eq_true rfl) dL_talks_106 ⟨Nat.le_of_ble_eq_true rfl, Nat.le_of_ble_eq_true rfl⟩ (fun r146057 hi146058 h146059 hp146060 => ?_)
                obtain ⟨i_h146059, f_h146059, ⟨st_h146059, dn_h146059, wt_h146059, br_h146059, ed_h146059, R_h146059, su_h146059⟩, E_h146059, F_h146059, ⟨pa_h146059, s9_h146059, nu_h146059, e9_h146059, ca_h146059, cf_h146059, B_h146059, b6_h146059⟩, r_h146059⟩ := hp146060
                subst i_h146059
                have O_h146059 : ObS h146059 o on kp := hOx.kept (fun q _ _ => f_h146059 q (by omega) (by omega) (by omega) (by omega))
                have Pa_h146059 : PrC z h146059 a nd T := hPa.kept (fun q _ _ => f_h146059 q (by omega) (by omega) (by omega) (by omega))
                obtain ⟨n_h146059, en_h146059, es_h146059, q_h146059, mo_h146059, lf_h146059, En_h146059, hn_h146059, ks_h146059, hq_h146059, hl_h146059, he_h146059⟩ := id E_h146059
                rcases r_h146059 with r146057e | r146057e | r146057e
                · subst r146057e
                  obtain ⟨v1_h146059, v2_h146059, v3_h146059⟩ := b6_h146059 rfl
                  subst v1_h146059; subst v2_h146059
                  refine ax_istore hC [(11, .int (-6)), (10, .int 1), (9, .int (pLb T n1)), (8, .int (nI pn)), (7, .int (nI ee)), (6, .int (nI (cnV kv (fr + ii)))), (5, .int (nI ii)), (0, .ref o), (1, .int (nI sn)), (2, .ref (kr 19)), (3, .int (nI fr)), (4, .int 24)] dL_talks_109 (by decide) rfl ?_
                  refine ax_iload hC 1 dL_talks_111 rfl ?_
                  refine ax_iconst (v := 2) hC dL_talks_113 (by decide) ?_
                  refine ax_icmp_ne (tgt := 127) hC dL_talks_114 (by decide) (fun c146061 => ?_) (fun c146061 => ?_)
                  · refine ax_iload hC 1 dL_talks_127 rfl ?_
                    refine ax_iconst (v := 4) hC dL_talks_129 (by decide) ?_
                    refine ax_icmp_ne (tgt := 143) hC dL_talks_130 (by decide) (fun c146062 => ?_) (fun c146062 => ?_)
                    · refine ax_iload hC 1 dL_talks_143 rfl ?_
                      refine ax_iconst (v := 3) hC dL_talks_145 (by decide) ?_
                      refine ax_icmp_ne (tgt := 195) hC dL_talks_146 (by decide) (fun c146063 => ?_) (fun c146063 => ?_)
                      · refine ax_iload hC 0 dL_talks_195 rfl ?_
                        refine ax_bipush (v := (-6)) hC dL_talks_197 (by decide) ?_
                        refine ax_icmp_ne (tgt := 213) hC dL_talks_199 (by decide) (fun c146064 => ?_) (fun c146064 => ?_)
                        · exact absurd c146064 (by decide)
                        · refine ax_aload_n hC 7 dL_talks_202 rfl rfl ?_
                          refine ax_iconst (v := 2) hC dL_talks_203 (by decide) ?_
                          refine ax_callVp (st := []) hC [.int 2] O_h146059 rfl (c_X11_blame_2 l D z B lo _ h146059 o on kp ss (nI rr) st_h146059 dn_h146059 wt_h146059 br_h146059 gv ed_h146059 pa_h146059 s9_h146059 e9_h146059 cf_h146059 O_h146059 R_h146059 B_h146059) (cwV 1 hC.1.2.2.2.2 gL_talks_X11_blame rfl rfl rfl (by decide +kernel) ⟨Nat.le_of_ble_eq_true rfl, Nat.le_of_ble_eq_true rfl⟩) rfl rfl (Nat.le_of_ble_eq_true rfl) dL_talks_204 ⟨Nat.le_of_ble_eq_true rfl, Nat.le_of_ble_eq_true rfl⟩ (fun r146065 er146066 => ?_)
                          subst er146066
                          refine ax_iconst (v := 3) hC dL_talks_207 (by decide) ?_
                          refine ax_icmp_eq (tgt := 213) hC dL_talks_208 (by decide) (fun c146067 => ?_) (fun c146067 => ?_)
                          · refine ax_iload hC 0 dL_talks_213 rfl ?_
                            refine ax_bipush (v := (-6)) hC dL_talks_215 (by decide) ?_
                            refine ax_icmp_ne (tgt := 240) hC dL_talks_217 (by decide) (fun c146068 => ?_) (fun c146068 => ?_)
                            · exact absurd c146068 (by decide)
                            · refine ax_aload_n hC 7 dL_talks_220 rfl rfl ?_
                              refine ax_iconst (v := 5) hC dL_talks_221 (by decide) ?_
                              refine ax_callVp (st := []) hC [.int 5] O_h146059 rfl (c_X11_blame_5 l D z B lo _ h146059 o on kp ss (nI rr) st_h146059 dn_h146059 wt_h146059 br_h146059 gv ed_h146059 pa_h146059 s9_h146059 e9_h146059 cf_h146059 O_h146059 R_h146059 B_h146059) (cwV 1 hC.1.2.2.2.2 gL_talks_X11_blame rfl rfl rfl (by decide +kernel) ⟨Nat.le_of_ble_eq_true rfl, Nat.le_of_ble_eq_true rfl⟩) rfl rfl (Nat.le_of_ble_eq_true rfl) dL_talks_222 ⟨Nat.le_of_ble_eq_true rfl, Nat.le_of_ble_eq_true rfl⟩ (fun r146069 er146070 => ?_)
                              subst er146070
                              refine ax_aload_n hC 7 dL_talks_225 rfl rfl ?_
                              refine ax_bipush (v := 6) hC dL_talks_226 (by decide) ?_
                              refine ax_callVp (st := [.int (cf_h146059 0)]) hC [.int 6] O_h146059 rfl (c_X11_blame_6 l D z B lo _ h146059 o on kp ss (nI rr) st_h146059 dn_h146059 wt_h146059 br_h146059 gv ed_h146059 pa_h146059 s9_h146059 e9_h146059 cf_h146059 O_h146059 R_h146059 B_h146059) (cwV 1 hC.1.2.2.2.2 gL_talks_X11_blame rfl rfl rfl (by decide +kernel) ⟨Nat.le_of_ble_eq_true rfl, Nat.le_of_ble_eq_true rfl⟩) rfl rfl (Nat.le_of_ble_eq_true rfl) dL_talks_228 ⟨Nat.le_of_ble_eq_true rfl, Nat.le_of_ble_eq_true rfl⟩ (fun r146071 er146072 => ?_)
                              subst er146072
                              refine ax_icmp_ne (tgt := 238) hC dL_talks_231 (by decide) (fun c146073 => ?_) (fun c146073 => ?_)
                              · exact absurd v3_h146059 c146073
                              · refine ax_iconst (v := 1) hC dL_talks_234 (by decide) ?_
                                refine ax_goto (tgt := 239) hC dL_talks_235 (by decide) ?_
                                refine ax_zret hC hr hlocks dL_talks_239 (by decide) ?_
                                exact ⟨rfl, rfl, (fun q g1 g2 g3 => (f_h146059 q g1 (by omega) (by omega) g3).trans (hfr q g1 g2 g3)), O_h146059, ⟨_, _, _, _, _, R_h146059, su_h146059⟩, (back h146059 E_h146059 F_h146059).1, (back h146059 E_h146059 F_h146059).2, ⟨_, _, _, _, _, _, B_h146059⟩, (hP1.kept (fun q _ _ => f_h146059 q (by omega) (by omega) (by omega) (by omega))), (hP2.kept (fun q _ _ => f_h146059 q (by omega) (by omega) (by omega) (by omega)))⟩
                          · exact absurd c146067 (by decide)
                      · exact absurd c146063 (by decide)
                    · exact absurd c146062 (by decide)
                  · exact absurd c146061 (by decide)
                · subst r146057e
                  refine ax_istore hC [(11, .int (-4)), (10, .int 1), (9, .int (pLb T n1)), (8, .int (nI pn)), (7, .int (nI ee)), (6, .int (nI (cnV kv (fr + ii)))), (5, .int (nI ii)), (0, .ref o), (1, .int (nI sn)), (2, .ref (kr 19)), (3, .int (nI fr)), (4, .int 24)] dL_talks_109 (by decide) rfl ?_
                  refine ax_iload hC 1 dL_talks_111 rfl ?_
                  refine ax_iconst (v := 2) hC dL_talks_113 (by decide) ?_
                  refine ax_icmp_ne (tgt := 127) hC dL_talks_114 (by decide) (fun c146074 => ?_) (fun c146074 => ?_)
                  · refine ax_iload hC 1 dL_talks_127 rfl ?_
                    refine ax_iconst (v := 4) hC dL_talks_129 (by decide) ?_
                    refine ax_icmp_ne (tgt := 143) hC dL_talks_130 (by decide) (fun c146075 => ?_) (fun c146075 => ?_)
                    · refine ax_iload hC 1 dL_talks_143 rfl ?_
                      refine ax_iconst (v := 3) hC dL_talks_145 (by decide) ?_
                      refine ax_icmp_ne (tgt := 195) hC dL_talks_146 (by decide) (fun c146076 => ?_) (fun c146076 => ?_)
                      · refine ax_iload hC 0 dL_talks_195 rfl ?_
                        refine ax_bipush (v := (-6)) hC dL_talks_197 (by decide) ?_
                        refine ax_icmp_ne (tgt := 213) hC dL_talks_199 (by decide) (fun c146077 => ?_) (fun c146077 => ?_)
                        · refine ax_iload hC 0 dL_talks_213 rfl ?_
                          refine ax_bipush (v := (-6)) hC dL_talks_215 (by decide) ?_
                          refine ax_icmp_ne (tgt := 240) hC dL_talks_217 (by decide) (fun c146078 => ?_) (fun c146078 => ?_)
                          · refine ax_iload hC 0 dL_talks_240 rfl ?_
                            refine ax_bipush (v := (-4)) hC dL_talks_242 (by decide) ?_
                            refine ax_icmp_eq (tgt := 252) hC dL_talks_244 (by decide) (fun c146079 => ?_) (fun c146079 => ?_)
                            · refine ax_aload_n hC 7 dL_talks_252 rfl rfl ?_
                              refine ax_iload hC 4 dL_talks_253 rfl ?_
                              refine ax_iconst (v := 3) hC dL_talks_255 (by decide) ?_
                              refine ax_callVp (st := []) hC [.int (nI ee), .int 3] O_h146059 rfl (c_X11_look_3 l D z B lo _ h146059 o on kp ss (nI rr) st_h146059 dn_h146059 wt_h146059 br_h146059 gv ed_h146059 ee a n_h146059 q_h146059 (nI pn) en_h146059 es_h146059 mo_h146059 nd lf_h146059 T O_h146059 R_h146059 En_h146059 Pa_h146059 hcp hn_h146059 k2 hss k6 he_h146059) (cwV 2 hC.1.2.2.2.2 gL_talks_X11_look rfl rfl rfl (by decide +kernel) ⟨Nat.le_of_ble_eq_true rfl, Nat.le_of_ble_eq_true rfl⟩) rfl rfl (Nat.le_of_ble_eq_true rfl) dL_talks_256 ⟨Nat.le_of_ble_eq_true rfl, Nat.le_of_ble_eq_true rfl⟩ (fun r146080 er146081 => ?_)
                              rw [er146081]
                              refine ax_iconst (v := 4) hC dL_talks_259 (by decide) ?_
                              refine ax_icmp_le (tgt := 265) hC dL_talks_260 (by decide) (fun c146082 => ?_) (fun c146082 => ?_)
                              · refine ax_iinc (v := nI (ii + 1)) hC 6 [(5, .int (nI (ii + 1))), (11, .int (-4)), (10, .int 1), (9, .int (pLb T n1)), (8, .int (nI pn)), (7, .int (nI ee)), (6, .int (nI (cnV kv (fr + ii)))), (0, .ref o), (1, .int (nI sn)), (2, .ref (kr 19)), (3, .int (nI fr)), (4, .int 24)] dL_talks_265 rfl (nI_1 _) (by decide) rfl ?_
                                refine ax_goto (tgt := 3) hC dL_talks_268 (by decide) ?_
                                refine ax_locals [0, 7, 8, 9, 10, 11] (L' := [(5, .int (nI (ii + 1))), (0, .ref o), (1, .int (nI sn)), (2, .ref (kr 19)), (3, .int (nI fr)), (4, .int 24)]) rfl ?_
                                exact ih (ii + 1) h146059 (by omega) O_h146059 ⟨_, _, _, _, _, R_h146059, su_h146059⟩ (back h146059 E_h146059 F_h146059).1 (back h146059 E_h146059 F_h146059).2 ⟨_, _, _, _, _, _, B_h146059⟩ (hP1.kept (fun q _ _ => f_h146059 q (by omega) (by omega) (by omega) (by omega))) (hP2.kept (fun q _ _ => f_h146059 q (by omega) (by omega) (by omega) (by omega))) (fun q g1 g2 g3 => (f_h146059 q g1 (by omega) (by omega) g3).trans (hfr q g1 g2 g3))
                              · exact absurd (nI_le (a := q_h146059) (b := 4) hq_h146059 (by decide)) c146082
                            · exact absurd c146079 (by decide)
                          · exact absurd c146078 (by decide)
                        · exact absurd c146077 (by decide)
                      · exact absurd c146076 (by decide)
                    · exact absurd c146075 (by decide)
                  · exact absurd c146074 (by decide)
                · refine ax_istore hC [(11, .int r146057), (10, .int 1), (9, .int (pLb T n1)), (8, .int (nI pn)), (7, .int (nI ee)), (6, .int (nI (cnV kv (fr + ii)))), (5, .int (nI ii)), (0, .ref o), (1, .int (nI sn)), (2, .ref (kr 19)), (3, .int (nI fr)), (4, .int 24)] dL_talks_109 (by decide) rfl ?_
                  refine ax_iload hC 1 dL_talks_111 rfl ?_
                  refine ax_iconst (v := 2) hC dL_talks_113 (by decide) ?_
                  refine ax_icmp_ne (tgt := 127) hC dL_talks_114 (by decide) (fun c146084 => ?_) (fun c146084 => ?_)
                  · refine ax_iload hC 1 dL_talks_127 rfl ?_
                    refine ax_iconst (v := 4) hC dL_talks_129 (by decide) ?_
                    refine ax_icmp_ne (tgt := 143) hC dL_talks_130 (by decide) (fun c146085 => ?_) (fun c146085 => ?_)
                    · refine ax_iload hC 1 dL_talks_143 rfl ?_
                      refine ax_iconst (v := 3) hC dL_talks_145 (by decide) ?_
                      refine ax_icmp_ne (tgt := 195) hC dL_talks_146 (by decide) (fun c146086 => ?_) (fun c146086 => ?_)
                      · refine ax_iload hC 0 dL_talks_195 rfl ?_
                        refine ax_bipush (v := (-6)) hC dL_talks_197 (by decide) ?_
                        refine ax_icmp_ne (tgt := 213) hC dL_talks_199 (by decide) (fun c146087 => ?_) (fun c146087 => ?_)
                        · refine ax_iload hC 0 dL_talks_213 rfl ?_
                          refine ax_bipush (v := (-6)) hC dL_talks_215 (by decide) ?_
                          refine ax_icmp_ne (tgt := 240) hC dL_talks_217 (by decide) (fun c146088 => ?_) (fun c146088 => ?_)
                          · refine ax_iload hC 0 dL_talks_240 rfl ?_
                            refine ax_bipush (v := (-4)) hC dL_talks_242 (by decide) ?_
                            refine ax_icmp_eq (tgt := 252) hC dL_talks_244 (by decide) (fun c146089 => ?_) (fun c146089 => ?_)
                            · exact absurd (c146089 ▸ r146057e) (by decide)
                            · refine ax_iload hC 0 dL_talks_247 rfl ?_
                              refine ax_if_lt (tgt := 263) hC dL_talks_249 (by decide) (fun c146090 => ?_) (fun c146090 => ?_)
                              · exact absurd c146090 (Int32.not_lt.mpr r146057e)
                              · refine ax_aload_n hC 7 dL_talks_252 rfl rfl ?_
                                refine ax_iload hC 4 dL_talks_253 rfl ?_
                                refine ax_iconst (v := 3) hC dL_talks_255 (by decide) ?_
                                refine ax_callVp (st := []) hC [.int (nI ee), .int 3] O_h146059 rfl (c_X11_look_3 l D z B lo _ h146059 o on kp ss (nI rr) st_h146059 dn_h146059 wt_h146059 br_h146059 gv ed_h146059 ee a n_h146059 q_h146059 (nI pn) en_h146059 es_h146059 mo_h146059 nd lf_h146059 T O_h146059 R_h146059 En_h146059 Pa_h146059 hcp hn_h146059 k2 hss k6 he_h146059) (cwV 2 hC.1.2.2.2.2 gL_talks_X11_look rfl rfl rfl (by decide +kernel) ⟨Nat.le_of_ble_eq_true rfl, Nat.le_of_ble_eq_true rfl⟩) rfl rfl (Nat.le_of_ble_eq_true rfl) dL_talks_256 ⟨Nat.le_of_ble_eq_true rfl, Nat.le_of_ble_eq_true rfl⟩ (fun r146091 er146092 => ?_)
                                rw [er146092]
                                refine ax_iconst (v := 4) hC dL_talks_259 (by decide) ?_
                                refine ax_icmp_le (tgt := 265) hC dL_talks_260 (by decide) (fun c146093 => ?_) (fun c146093 => ?_)
                                · refine ax_iinc (v := nI (ii + 1)) hC 6 [(5, .int (nI (ii + 1))), (11, .int r146057), (10, .int 1), (9, .int (pLb T n1)), (8, .int (nI pn)), (7, .int (nI ee)), (6, .int (nI (cnV kv (fr + ii)))), (0, .ref o), (1, .int (nI sn)), (2, .ref (kr 19)), (3, .int (nI fr)), (4, .int 24)] dL_talks_265 rfl (nI_1 _) (by decide) rfl ?_
                                  refine ax_goto (tgt := 3) hC dL_talks_268 (by decide) ?_
                                  refine ax_locals [0, 7, 8, 9, 10, 11] (L' := [(5, .int (nI (ii + 1))), (0, .ref o), (1, .int (nI sn)), (2, .ref (kr 19)), (3, .int (nI fr)), (4, .int 24)]) rfl ?_
                                  exact ih (ii + 1) h146059 (by omega) O_h146059 ⟨_, _, _, _, _, R_h146059, su_h146059⟩ (back h146059 E_h146059 F_h146059).1 (back h146059 E_h146059 F_h146059).2 ⟨_, _, _, _, _, _, B_h146059⟩ (hP1.kept (fun q _ _ => f_h146059 q (by omega) (by omega) (by omega) (by omega))) (hP2.kept (fun q _ _ => f_h146059 q (by omega) (by omega) (by omega) (by omega))) (fun q g1 g2 g3 => (f_h146059 q g1 (by omega) (by omega) g3).trans (hfr q g1 g2 g3))
                                · exact absurd (nI_le (a := q_h146059) (b := 4) hq_h146059 (by decide)) c146093
                          · exact absurd c146088 c146087
                        · exact absurd (c146087 ▸ r146057e) (by decide)
                      · exact absurd c146086 (by decide)
                    · exact absurd c146085 (by decide)
                  · exact absurd c146084 (by decide)
            · exact absurd c146055 (by decide)
          · rw [hk]
            refine ax_iconst (v := 0) hC dL_talks_71 (by decide) ?_
            refine ax_istore hC [(11, .int 0), (10, .int 2), (9, .int (pLb T n1)), (8, .int (nI pn)), (7, .int (nI ee)), (6, .int (nI (cnV kv (fr + ii)))), (5, .int (nI ii)), (0, .ref o), (1, .int (nI sn)), (2, .ref (kr 19)), (3, .int (nI fr)), (4, .int 24)] dL_talks_72 (by decide) rfl ?_
            refine ax_iload hC 1 dL_talks_74 rfl ?_
            refine ax_if_ne (tgt := 89) hC dL_talks_76 (by decide) (fun c146095 => ?_) (fun c146095 => ?_)
            · refine ax_iload hC 1 dL_talks_89 rfl ?_
              refine ax_iconst (v := 1) hC dL_talks_91 (by decide) ?_
              refine ax_icmp_ne (tgt := 111) hC dL_talks_92 (by decide) (fun c146096 => ?_) (fun c146096 => ?_)
              · refine ax_iload hC 1 dL_talks_111 rfl ?_
                refine ax_iconst (v := 2) hC dL_talks_113 (by decide) ?_
                refine ax_icmp_ne (tgt := 127) hC dL_talks_114 (by decide) (fun c146097 => ?_) (fun c146097 => ?_)
                · exact absurd c146097 (by decide)
                · refine ax_aload_n hC 7 dL_talks_117 rfl rfl ?_
                  refine ax_iload hC 3 dL_talks_118 rfl ?_
                  refine ax_iload hC 4 dL_talks_120 rfl ?_
                  refine ax_callVi (st := []) hC [.int (nI pn), .int (nI ee)] hOx rfl (c_X11_hear l D z B lo _ hx o on kp ss rr pn (nI rr) st dn wt br gv ed ee a n1 q1 es mo nd lf T ff b n2 q2 (nI pm) en2 es2 mo2 lf2 U pa st9 nu en9 ca cf hOx hRm hEn hPa hcp hnn k2 hG k3 k4 k5 hq hq2 hB wa da hst9 hk oa hn2 hst2 hlf hlf2 hen2 hsum rfl hrr k7 hss k6) (cwV 2 hC.1.2.2.2.2 gL_talks_X11_hear rfl rfl rfl (by decide +kernel) ⟨Nat.le_of_ble_eq_true rfl, Nat.le_of_ble_eq_true rfl⟩) rfl rfl (Nat.le_of_ble_eq_true rfl) dL_talks_122 ⟨Nat.le_of_ble_eq_true rfl, Nat.le_of_ble_eq_true rfl⟩ (fun r146098 hi146099 h146100 hp146101 => ?_)
                  obtain ⟨i_h146100, f_h146100, ⟨st_h146100, dn_h146100, wt_h146100, br_h146100, ed_h146100, R_h146100, su_h146100⟩, E_h146100, F_h146100, ⟨pa_h146100, s9_h146100, nu_h146100, e9_h146100, ca_h146100, cf_h146100, B_h146100, b6_h146100⟩, r_h146100⟩ := hp146101
                  subst i_h146100
                  have O_h146100 : ObS h146100 o on kp := hOx.kept (fun q _ _ => f_h146100 q (by omega) (by omega) (by omega) (by omega))
                  have Pa_h146100 : PrC z h146100 a nd T := hPa.kept (fun q _ _ => f_h146100 q (by omega) (by omega) (by omega) (by omega))
                  obtain ⟨n_h146100, en_h146100, es_h146100, q_h146100, mo_h146100, lf_h146100, En_h146100, hn_h146100, ks_h146100, hq_h146100, hl_h146100, he_h146100⟩ := id E_h146100
                  rcases r_h146100 with r146098e | r146098e | r146098e
                  · subst r146098e
                    obtain ⟨v1_h146100, v2_h146100, v3_h146100⟩ := b6_h146100 rfl
                    subst v1_h146100; subst v2_h146100
                    refine ax_istore hC [(11, .int (-6)), (10, .int 2), (9, .int (pLb T n1)), (8, .int (nI pn)), (7, .int (nI ee)), (6, .int (nI (cnV kv (fr + ii)))), (5, .int (nI ii)), (0, .ref o), (1, .int (nI sn)), (2, .ref (kr 19)), (3, .int (nI fr)), (4, .int 24)] dL_talks_125 (by decide) rfl ?_
                    refine ax_iload hC 1 dL_talks_127 rfl ?_
                    refine ax_iconst (v := 4) hC dL_talks_129 (by decide) ?_
                    refine ax_icmp_ne (tgt := 143) hC dL_talks_130 (by decide) (fun c146102 => ?_) (fun c146102 => ?_)
                    · refine ax_iload hC 1 dL_talks_143 rfl ?_
                      refine ax_iconst (v := 3) hC dL_talks_145 (by decide) ?_
                      refine ax_icmp_ne (tgt := 195) hC dL_talks_146 (by decide) (fun c146103 => ?_) (fun c146103 => ?_)
                      · refine ax_iload hC 0 dL_talks_195 rfl ?_
                        refine ax_bipush (v := (-6)) hC dL_talks_197 (by decide) ?_
                        refine ax_icmp_ne (tgt := 213) hC dL_talks_199 (by decide) (fun c146104 => ?_) (fun c146104 => ?_)
                        · exact absurd c146104 (by decide)
                        · refine ax_aload_n hC 7 dL_talks_202 rfl rfl ?_
                          refine ax_iconst (v := 2) hC dL_talks_203 (by decide) ?_
                          refine ax_callVp (st := []) hC [.int 2] O_h146100 rfl (c_X11_blame_2 l D z B lo _ h146100 o on kp ss (nI rr) st_h146100 dn_h146100 wt_h146100 br_h146100 gv ed_h146100 pa_h146100 s9_h146100 e9_h146100 cf_h146100 O_h146100 R_h146100 B_h146100) (cwV 1 hC.1.2.2.2.2 gL_talks_X11_blame rfl rfl rfl (by decide +kernel) ⟨Nat.le_of_ble_eq_true rfl, Nat.le_of_ble_eq_true rfl⟩) rfl rfl (Nat.le_of_ble_eq_true rfl) dL_talks_204 ⟨Nat.le_of_ble_eq_true rfl, Nat.le_of_ble_eq_true rfl⟩ (fun r146105 er146106 => ?_)
                          subst er146106
                          refine ax_iconst (v := 3) hC dL_talks_207 (by decide) ?_
                          refine ax_icmp_eq (tgt := 213) hC dL_talks_208 (by decide) (fun c146107 => ?_) (fun c146107 => ?_)
                          · refine ax_iload hC 0 dL_talks_213 rfl ?_
                            refine ax_bipush (v := (-6)) hC dL_talks_215 (by decide) ?_
                            refine ax_icmp_ne (tgt := 240) hC dL_talks_217 (by decide) (fun c146108 => ?_) (fun c146108 => ?_)
                            · exact absurd c146108 (by decide)
                            · refine ax_aload_n hC 7 dL_talks_220 rfl rfl ?_
                              refine ax_iconst (v := 5) hC dL_talks_221 (by decide) ?_
                              refine ax_callVp (st := []) hC [.int 5] O_h146100 rfl (c_X11_blame_5 l D z B lo _ h146100 o on kp ss (nI rr) st_h146100 dn_h146100 wt_h146100 br_h146100 gv ed_h146100 pa_h146100 s9_h146100 e9_h146100 cf_h146100 O_h146100 R_h146100 B_h146100) (cwV 1 hC.1.2.2.2.2 gL_talks_X11_blame rfl rfl rfl (by decide +kernel) ⟨Nat.le_of_ble_eq_true rfl, Nat.le_of_ble_eq_true rfl⟩) rfl rfl (Nat.le_of_ble_eq_true rfl) dL_talks_222 ⟨Nat.le_of_ble_eq_true rfl, Nat.le_of_ble_eq_true rfl⟩ (fun r146109 er146110 => ?_)
                              subst er146110
                              refine ax_aload_n hC 7 dL_talks_225 rfl rfl ?_
                              refine ax_bipush (v := 6) hC dL_talks_226 (by decide) ?_
                              refine ax_callVp (st := [.int (cf_h146100 0)]) hC [.int 6] O_h146100 rfl (c_X11_blame_6 l D z B lo _ h146100 o on kp ss (nI rr) st_h146100 dn_h146100 wt_h146100 br_h146100 gv ed_h146100 pa_h146100 s9_h146100 e9_h146100 cf_h146100 O_h146100 R_h146100 B_h146100) (cwV 1 hC.1.2.2.2.2 gL_talks_X11_blame rfl rfl rfl (by decide +kernel) ⟨Nat.le_of_ble_eq_true rfl, Nat.le_of_ble_eq_true rfl⟩) rfl rfl (Nat.le_of_ble_eq_true rfl) dL_talks_228 ⟨Nat.le_of_ble_eq_true rfl, Nat.le_of_ble_eq_true rfl⟩ (fun r146111 er146112 => ?_)
                              subst er146112
                              refine ax_icmp_ne (tgt := 238) hC dL_talks_231 (by decide) (fun c146113 => ?_) (fun c146113 => ?_)
                              · exact absurd v3_h146100 c146113
                              · refine ax_iconst (v := 1) hC dL_talks_234 (by decide) ?_
                                refine ax_goto (tgt := 239) hC dL_talks_235 (by decide) ?_
                                refine ax_zret hC hr hlocks dL_talks_239 (by decide) ?_
                                exact ⟨rfl, rfl, (fun q g1 g2 g3 => (f_h146100 q g1 (by omega) (by omega) g3).trans (hfr q g1 g2 g3)), O_h146100, ⟨_, _, _, _, _, R_h146100, su_h146100⟩, (back h146100 E_h146100 F_h146100).1, (back h146100 E_h146100 F_h146100).2, ⟨_, _, _, _, _, _, B_h146100⟩, (hP1.kept (fun q _ _ => f_h146100 q (by omega) (by omega) (by omega) (by omega))), (hP2.kept (fun q _ _ => f_h146100 q (by omega) (by omega) (by omega) (by omega)))⟩
                          · exact absurd c146107 (by decide)
                      · exact absurd c146103 (by decide)
                    · exact absurd c146102 (by decide)
                  · subst r146098e
                    refine ax_istore hC [(11, .int (-4)), (10, .int 2), (9, .int (pLb T n1)), (8, .int (nI pn)), (7, .int (nI ee)), (6, .int (nI (cnV kv (fr + ii)))), (5, .int (nI ii)), (0, .ref o), (1, .int (nI sn)), (2, .ref (kr 19)), (3, .int (nI fr)), (4, .int 24)] dL_talks_125 (by decide) rfl ?_
                    refine ax_iload hC 1 dL_talks_127 rfl ?_
                    refine ax_iconst (v := 4) hC dL_talks_129 (by decide) ?_
                    refine ax_icmp_ne (tgt := 143) hC dL_talks_130 (by decide) (fun c146114 => ?_) (fun c146114 => ?_)
                    · refine ax_iload hC 1 dL_talks_143 rfl ?_
                      refine ax_iconst (v := 3) hC dL_talks_145 (by decide) ?_
                      refine ax_icmp_ne (tgt := 195) hC dL_talks_146 (by decide) (fun c146115 => ?_) (fun c146115 => ?_)
                      · refine ax_iload hC 0 dL_talks_195 rfl ?_
                        refine ax_bipush (v := (-6)) hC dL_talks_197 (by decide) ?_
                        refine ax_icmp_ne (tgt := 213) hC dL_talks_199 (by decide) (fun c146116 => ?_) (fun c146116 => ?_)
                        · refine ax_iload hC 0 dL_talks_213 rfl ?_
                          refine ax_bipush (v := (-6)) hC dL_talks_215 (by decide) ?_
                          refine ax_icmp_ne (tgt := 240) hC dL_talks_217 (by decide) (fun c146117 => ?_) (fun c146117 => ?_)
                          · refine ax_iload hC 0 dL_talks_240 rfl ?_
                            refine ax_bipush (v := (-4)) hC dL_talks_242 (by decide) ?_
                            refine ax_icmp_eq (tgt := 252) hC dL_talks_244 (by decide) (fun c146118 => ?_) (fun c146118 => ?_)
                            · refine ax_aload_n hC 7 dL_talks_252 rfl rfl ?_
                              refine ax_iload hC 4 dL_talks_253 rfl ?_
                              refine ax_iconst (v := 3) hC dL_talks_255 (by decide) ?_
                              refine ax_callVp (st := []) hC [.int (nI ee), .int 3] O_h146100 rfl (c_X11_look_3 l D z B lo _ h146100 o on kp ss (nI rr) st_h146100 dn_h146100 wt_h146100 br_h146100 gv ed_h146100 ee a n_h146100 q_h146100 (nI pn) en_h146100 es_h146100 mo_h146100 nd lf_h146100 T O_h146100 R_h146100 En_h146100 Pa_h146100 hcp hn_h146100 k2 hss k6 he_h146100) (cwV 2 hC.1.2.2.2.2 gL_talks_X11_look rfl rfl rfl (by decide +kernel) ⟨Nat.le_of_ble_eq_true rfl, Nat.le_of_ble_eq_true rfl⟩) rfl rfl (Nat.le_of_ble_eq_true rfl) dL_talks_256 ⟨Nat.le_of_ble_eq_true rfl, Nat.le_of_ble_eq_true rfl⟩ (fun r146119 er146120 => ?_)
                              rw [er146120]
                              refine ax_iconst (v := 4) hC dL_talks_259 (by decide) ?_
                              refine ax_icmp_le (tgt := 265) hC dL_talks_260 (by decide) (fun c146121 => ?_) (fun c146121 => ?_)
                              · refine ax_iinc (v := nI (ii + 1)) hC 6 [(5, .int (nI (ii + 1))), (11, .int (-4)), (10, .int 2), (9, .int (pLb T n1)), (8, .int (nI pn)), (7, .int (nI ee)), (6, .int (nI (cnV kv (fr + ii)))), (0, .ref o), (1, .int (nI sn)), (2, .ref (kr 19)), (3, .int (nI fr)), (4, .int 24)] dL_talks_265 rfl (nI_1 _) (by decide) rfl ?_
                                refine ax_goto (tgt := 3) hC dL_talks_268 (by decide) ?_
                                refine ax_locals [0, 7, 8, 9, 10, 11] (L' := [(5, .int (nI (ii + 1))), (0, .ref o), (1, .int (nI sn)), (2, .ref (kr 19)), (3, .int (nI fr)), (4, .int 24)]) rfl ?_
                                exact ih (ii + 1) h146100 (by omega) O_h146100 ⟨_, _, _, _, _, R_h146100, su_h146100⟩ (back h146100 E_h146100 F_h146100).1 (back h146100 E_h146100 F_h146100).2 ⟨_, _, _, _, _, _, B_h146100⟩ (hP1.kept (fun q _ _ => f_h146100 q (by omega) (by omega) (by omega) (by omega))) (hP2.kept (fun q _ _ => f_h146100 q (by omega) (by omega) (by omega) (by omega))) (fun q g1 g2 g3 => (f_h146100 q g1 (by omega) (by omega) g3).trans (hfr q g1 g2 g3))
                              · exact absurd (nI_le (a := q_h146100) (b := 4) hq_h146100 (by decide)) c146121
                            · exact absurd c146118 (by decide)
                          · exact absurd c146117 (by decide)
                        · exact absurd c146116 (by decide)
                      · exact absurd c146115 (by decide)
                    · exact absurd c146114 (by decide)
                  · refine ax_istore hC [(11, .int r146098), (10, .int 2), (9, .int (pLb T n1)), (8, .int (nI pn)), (7, .int (nI ee)), (6, .int (nI (cnV kv (fr + ii)))), (5, .int (nI ii)), (0, .ref o), (1, .int (nI sn)), (2, .ref (kr 19)), (3, .int (nI fr)), (4, .int 24)] dL_talks_125 (by decide) rfl ?_
                    refine ax_iload hC 1 dL_talks_127 rfl ?_
                    refine ax_iconst (v := 4) hC dL_talks_129 (by decide) ?_
                    refine ax_icmp_ne (tgt := 143) hC dL_talks_130 (by decide) (fun c146123 => ?_) (fun c146123 => ?_)
                    · refine ax_iload hC 1 dL_talks_143 rfl ?_
                      refine ax_iconst (v := 3) hC dL_talks_145 (by decide) ?_
                      refine ax_icmp_ne (tgt := 195) hC dL_talks_146 (by decide) (fun c146124 => ?_) (fun c146124 => ?_)
                      · refine ax_iload hC 0 dL_talks_195 rfl ?_
                        refine ax_bipush (v := (-6)) hC dL_talks_197 (by decide) ?_
                        refine ax_icmp_ne (tgt := 213) hC dL_talks_199 (by decide) (fun c146125 => ?_) (fun c146125 => ?_)
                        · refine ax_iload hC 0 dL_talks_213 rfl ?_
                          refine ax_bipush (v := (-6)) hC dL_talks_215 (by decide) ?_
                          refine ax_icmp_ne (tgt := 240) hC dL_talks_217 (by decide) (fun c146126 => ?_) (fun c146126 => ?_)
                          · refine ax_iload hC 0 dL_talks_240 rfl ?_
                            refine ax_bipush (v := (-4)) hC dL_talks_242 (by decide) ?_
                            refine ax_icmp_eq (tgt := 252) hC dL_talks_244 (by decide) (fun c146127 => ?_) (fun c146127 => ?_)
                            · exact absurd (c146127 ▸ r146098e) (by decide)
                            · refine ax_iload hC 0 dL_talks_247 rfl ?_
                              refine ax_if_lt (tgt := 263) hC dL_talks_249 (by decide) (fun c146128 => ?_) (fun c146128 => ?_)
                              · exact absurd c146128 (Int32.not_lt.mpr r146098e)
                              · refine ax_aload_n hC 7 dL_talks_252 rfl rfl ?_
                                refine ax_iload hC 4 dL_talks_253 rfl ?_
                                refine ax_iconst (v := 3) hC dL_talks_255 (by decide) ?_
                                refine ax_callVp (st := []) hC [.int (nI ee), .int 3] O_h146100 rfl (c_X11_look_3 l D z B lo _ h146100 o on kp ss (nI rr) st_h146100 dn_h146100 wt_h146100 br_h146100 gv ed_h146100 ee a n_h146100 q_h146100 (nI pn) en_h146100 es_h146100 mo_h146100 nd lf_h146100 T O_h146100 R_h146100 En_h146100 Pa_h146100 hcp hn_h146100 k2 hss k6 he_h146100) (cwV 2 hC.1.2.2.2.2 gL_talks_X11_look rfl rfl rfl (by decide +kernel) ⟨Nat.le_of_ble_eq_true rfl, Nat.le_of_ble_eq_true rfl⟩) rfl rfl (Nat.le_of_ble_eq_true rfl) dL_talks_256 ⟨Nat.le_of_ble_eq_true rfl, Nat.le_of_ble_eq_true rfl⟩ (fun r146129 er146130 => ?_)
                                rw [er146130]
                                refine ax_iconst (v := 4) hC dL_talks_259 (by decide) ?_
                                refine ax_icmp_le (tgt := 265) hC dL_talks_260 (by decide) (fun c146131 => ?_) (fun c146131 => ?_)
                                · refine ax_iinc (v := nI (ii + 1)) hC 6 [(5, .int (nI (ii + 1))), (11, .int r146098), (10, .int 2), (9, .int (pLb T n1)), (8, .int (nI pn)), (7, .int (nI ee)), (6, .int (nI (cnV kv (fr + ii)))), (0, .ref o), (1, .int (nI sn)), (2, .ref (kr 19)), (3, .int (nI fr)), (4, .int 24)] dL_talks_265 rfl (nI_1 _) (by decide) rfl ?_
                                  refine ax_goto (tgt := 3) hC dL_talks_268 (by decide) ?_
                                  refine ax_locals [0, 7, 8, 9, 10, 11] (L' := [(5, .int (nI (ii + 1))), (0, .ref o), (1, .int (nI sn)), (2, .ref (kr 19)), (3, .int (nI fr)), (4, .int 24)]) rfl ?_
                                  exact ih (ii + 1) h146100 (by omega) O_h146100 ⟨_, _, _, _, _, R_h146100, su_h146100⟩ (back h146100 E_h146100 F_h146100).1 (back h146100 E_h146100 F_h146100).2 ⟨_, _, _, _, _, _, B_h146100⟩ (hP1.kept (fun q _ _ => f_h146100 q (by omega) (by omega) (by omega) (by omega))) (hP2.kept (fun q _ _ => f_h146100 q (by omega) (by omega) (by omega) (by omega))) (fun q g1 g2 g3 => (f_h146100 q g1 (by omega) (by omega) g3).trans (hfr q g1 g2 g3))
                                · exact absurd (nI_le (a := q_h146100) (b := 4) hq_h146100 (by decide)) c146131
                          · exact absurd c146126 c146125
                        · exact absurd (c146125 ▸ r146098e) (by decide)
                      · exact absurd c146124 (by decide)
                    · exact absurd c146123 (by decide)
              · exact absurd c146096 (by decide)
            · exact absurd c146095 (by decide)
          · rw [hk]
            refine ax_iconst (v := 0) hC dL_talks_71 (by decide) ?_
            refine ax_istore hC [(11, .int 0), (10, .int 3), (9, .int (pLb T n1)), (8, .int (nI pn)), (7, .int (nI ee)), (6, .int (nI (cnV kv (fr + ii)))), (5, .int (nI ii)), (0, .ref o), (1, .int (nI sn)), (2, .ref (kr 19)), (3, .int (nI fr)), (4, .int 24)] dL_talks_72 (by decide) rfl ?_
            refine ax_iload hC 1 dL_talks_74 rfl ?_
            refine ax_if_ne (tgt := 89) hC dL_talks_76 (by decide) (fun c146133 => ?_) (fun c146133 => ?_)
            · refine ax_iload hC 1 dL_talks_89 rfl ?_
              refine ax_iconst (v := 1) hC dL_talks_91 (by decide) ?_
              refine ax_icmp_ne (tgt := 111) hC dL_talks_92 (by decide) (fun c146134 => ?_) (fun c146134 => ?_)
              · refine ax_iload hC 1 dL_talks_111 rfl ?_
                refine ax_iconst (v := 2) hC dL_talks_113 (by decide) ?_
                refine ax_icmp_ne (tgt := 127) hC dL_talks_114 (by decide) (fun c146135 => ?_) (fun c146135 => ?_)
                · refine ax_iload hC 1 dL_talks_127 rfl ?_
                  refine ax_iconst (v := 4) hC dL_talks_129 (by decide) ?_
                  refine ax_icmp_ne (tgt := 143) hC dL_talks_130 (by decide) (fun c146136 => ?_) (fun c146136 => ?_)
                  · refine ax_iload hC 1 dL_talks_143 rfl ?_
                    refine ax_iconst (v := 3) hC dL_talks_145 (by decide) ?_
                    refine ax_icmp_ne (tgt := 195) hC dL_talks_146 (by decide) (fun c146137 => ?_) (fun c146137 => ?_)
                    · exact absurd c146137 (by decide)
                    · refine ax_iload hC 5 dL_talks_149 rfl ?_
                      refine ax_iconst (v := 2) hC dL_talks_151 (by decide) ?_
                      refine ax_ishr hC dL_talks_152 ?_
                      refine ax_eqi (y := nI (cnV kv (fr + ii) / 4)) (nI_shr2 (by omega)) ?_
                      refine ax_bipush (v := 26) hC dL_talks_153 (by decide) ?_
                      refine ax_irem hC dL_talks_155 (by decide) ?_
                      refine ax_eqi (y := nI (cnV kv (fr + ii) / 4 % 26)) (nI_rem (d := 26) (by omega) (by decide)) ?_
                      refine ax_istore hC [(12, .int (nI (cnV kv (fr + ii) / 4 % 26))), (11, .int 0), (10, .int 3), (9, .int (pLb T n1)), (8, .int (nI pn)), (7, .int (nI ee)), (6, .int (nI (cnV kv (fr + ii)))), (5, .int (nI ii)), (0, .ref o), (1, .int (nI sn)), (2, .ref (kr 19)), (3, .int (nI fr)), (4, .int 24)] dL_talks_156 (by decide) rfl ?_
                      refine ax_eqs (cs' := 0) (ss' := 0) rfl rfl rfl ?_
                      suffices hK : ∀ jj : Nat, jj < 26 → ¬ (pLb T n1 >>> (nI jj &&& 31)) &&& 1 = 0 → Gx p l e rmL_talks s m args below meth c D vwCl B lo 13 (MQ below (KQi D vwCl B lo (ty6 z) (fun r hi' h' => r = 1 ∧ hi' = hi ∧ (∀ q, ¬ q = o + 41 → (q < o + 41 + 5 + 2 * (2 * sn) ∨ o + 41 + 5 + 2 * (2 * sn) + 4 ≤ q) → (q < o + 41 + 3 ∨ o + 41 + 3 + 2 ≤ q) → h' q = h q) ∧ ObS h' o on kp ∧ (∃ st dn wt br ed : Int32, RmS z h' (o + 41) (nI ss) (nI rr) st dn wt br gv ed ∧ st = dn + wt + br) ∧ EndI z h' (o + 41 + 5 + 2 * (2 * sn)) (nI p9) a1 T1 ∧ EndI z h' (o + 41 + 5 + 2 * (2 * sn + 1)) (nI q9) a2 T2 ∧ (∃ (pa st9 nu en9 ca : Int32) (cf : Nat → Int32), BlmS z h' (o + 41 + 3) pa st9 nu en9 ca cf) ∧ PrC z h' a1 nd1 T1 ∧ PrC z h' a2 nd2 T2)) args s 0 0 (fun q => lo ≤ q)) hi hx 0 0 [(12, .int (nI jj)), (11, .int 0), (10, .int 3), (9, .int (pLb T n1)), (8, .int (nI pn)), (7, .int (nI ee)), (6, .int (nI (cnV kv (fr + ii)))), (5, .int (nI ii)), (0, .ref o), (1, .int (nI sn)), (2, .ref (kr 19)), (3, .int (nI fr)), (4, .int 24)] 180 [] by
                        have inner : ∀ (n : Nat) (jj : Nat), (jj + n) % 26 = 0 → jj < 26 → Gx p l e rmL_talks s m args below meth c D vwCl B lo 13 (MQ below (KQi D vwCl B lo (ty6 z) (fun r hi' h' => r = 1 ∧ hi' = hi ∧ (∀ q, ¬ q = o + 41 → (q < o + 41 + 5 + 2 * (2 * sn) ∨ o + 41 + 5 + 2 * (2 * sn) + 4 ≤ q) → (q < o + 41 + 3 ∨ o + 41 + 3 + 2 ≤ q) → h' q = h q) ∧ ObS h' o on kp ∧ (∃ st dn wt br ed : Int32, RmS z h' (o + 41) (nI ss) (nI rr) st dn wt br gv ed ∧ st = dn + wt + br) ∧ EndI z h' (o + 41 + 5 + 2 * (2 * sn)) (nI p9) a1 T1 ∧ EndI z h' (o + 41 + 5 + 2 * (2 * sn + 1)) (nI q9) a2 T2 ∧ (∃ (pa st9 nu en9 ca : Int32) (cf : Nat → Int32), BlmS z h' (o + 41 + 3) pa st9 nu en9 ca cf) ∧ PrC z h' a1 nd1 T1 ∧ PrC z h' a2 nd2 T2)) args s 0 0 (fun q => lo ≤ q)) hi hx 0 0 [(12, .int (nI jj)), (11, .int 0), (10, .int 3), (9, .int (pLb T n1)), (8, .int (nI pn)), (7, .int (nI ee)), (6, .int (nI (cnV kv (fr + ii)))), (5, .int (nI ii)), (0, .ref o), (1, .int (nI sn)), (2, .ref (kr 19)), (3, .int (nI fr)), (4, .int 24)] 158 [] := by
                          intro n
                          induction n with
                          | zero =>
                            intro jj hj2 hj3
                            refine ax_iload hC 3 dL_talks_158 rfl ?_
                            refine ax_iload hC 0 dL_talks_160 rfl ?_
                            refine ax_ishr hC dL_talks_162 ?_
                            refine ax_iconst (v := 1) hC dL_talks_163 (by decide) ?_
                            refine ax_iand hC dL_talks_164 ?_
                            refine ax_if_ne (tgt := 180) hC dL_talks_165 (by decide) (fun c147001 => ?_) (fun c147001 => ?_)
                            · refine ax_locals [0, 1, 2, 3, 4, 5, 6, 7, 8, 9, 10, 11, 12] (L' := [(12, .int (nI jj)), (11, .int 0), (10, .int 3), (9, .int (pLb T n1)), (8, .int (nI pn)), (7, .int (nI ee)), (6, .int (nI (cnV kv (fr + ii)))), (5, .int (nI ii)), (0, .ref o), (1, .int (nI sn)), (2, .ref (kr 19)), (3, .int (nI fr)), (4, .int 24)]) rfl ?_
                              exact hK jj hj3 c147001
                            · obtain rfl : jj = 0 := by omega
                              exact absurd c147001 (lab_0 wa hnn hk)
                          | succ n ih =>
                            intro jj hj2 hj3
                            refine ax_iload hC 3 dL_talks_158 rfl ?_
                            refine ax_iload hC 0 dL_talks_160 rfl ?_
                            refine ax_ishr hC dL_talks_162 ?_
                            refine ax_iconst (v := 1) hC dL_talks_163 (by decide) ?_
                            refine ax_iand hC dL_talks_164 ?_
                            refine ax_if_ne (tgt := 180) hC dL_talks_165 (by decide) (fun c148001 => ?_) (fun c148001 => ?_)
                            · refine ax_locals [0, 1, 2, 3, 4, 5, 6, 7, 8, 9, 10, 11, 12] (L' := [(12, .int (nI jj)), (11, .int 0), (10, .int 3), (9, .int (pLb T n1)), (8, .int (nI pn)), (7, .int (nI ee)), (6, .int (nI (cnV kv (fr + ii)))), (5, .int (nI ii)), (0, .ref o), (1, .int (nI sn)), (2, .ref (kr 19)), (3, .int (nI fr)), (4, .int 24)]) rfl ?_
                              exact hK jj hj3 c148001
                            · refine ax_iload hC 0 dL_talks_168 rfl ?_
                              refine ax_iconst (v := 1) hC dL_talks_170 (by decide) ?_
                              refine ax_iadd hC dL_talks_171 ?_
                              refine ax_eqi (y := nI (jj + 1)) (nI_1 jj) ?_
                              refine ax_bipush (v := 26) hC dL_talks_172 (by decide) ?_
                              refine ax_irem hC dL_talks_174 (by decide) ?_
                              refine ax_eqi (y := nI ((jj + 1) % 26)) (nI_rem (d := 26) (by omega) (by decide)) ?_
                              refine ax_istore hC [(12, .int (nI ((jj + 1) % 26))), (11, .int 0), (10, .int 3), (9, .int (pLb T n1)), (8, .int (nI pn)), (7, .int (nI ee)), (6, .int (nI (cnV kv (fr + ii)))), (5, .int (nI ii)), (0, .ref o), (1, .int (nI sn)), (2, .ref (kr 19)), (3, .int (nI fr)), (4, .int 24)] dL_talks_175 (by decide) rfl ?_
                              refine ax_goto (tgt := 158) hC dL_talks_177 (by decide) ?_
                              refine ax_locals [0, 1, 2, 3, 4, 5, 6, 7, 8, 9, 10, 11, 12] (L' := [(12, .int (nI ((jj + 1) % 26))), (11, .int 0), (10, .int 3), (9, .int (pLb T n1)), (8, .int (nI pn)), (7, .int (nI ee)), (6, .int (nI (cnV kv (fr + ii)))), (5, .int (nI ii)), (0, .ref o), (1, .int (nI sn)), (2, .ref (kr 19)), (3, .int (nI fr)), (4, .int 24)]) rfl ?_
                              exact ih ((jj + 1) % 26) (by omega) (by omega)
                        refine ax_locals [0, 1, 2, 3, 4, 5, 6, 7, 8, 9, 10, 11, 12] (L' := [(12, .int (nI (cnV kv (fr + ii) / 4 % 26))), (11, .int 0), (10, .int 3), (9, .int (pLb T n1)), (8, .int (nI pn)), (7, .int (nI ee)), (6, .int (nI (cnV kv (fr + ii)))), (5, .int (nI ii)), (0, .ref o), (1, .int (nI sn)), (2, .ref (kr 19)), (3, .int (nI fr)), (4, .int 24)]) rfl ?_
                        exact inner (26 - (cnV kv (fr + ii) / 4 % 26)) _ (by omega) (by omega)
                      intro jj hj hb
                      refine ax_aload_n hC 8 dL_talks_180 rfl rfl ?_
                      refine ax_iload hC 4 dL_talks_181 rfl ?_
                      refine ax_iload hC 5 dL_talks_183 rfl ?_
                      refine ax_iload hC 0 dL_talks_185 rfl ?_
                      refine ax_bipush (v := 97) hC dL_talks_187 (by decide) ?_
                      refine ax_iadd hC dL_talks_189 ?_
                      refine ax_eqi (y := nI (97 + jj)) ((nI_add jj 97).trans (congrArg nI (by omega))) ?_
                      refine ax_callVi (st := []) hC [.int (nI pn), .int (nI ee), .int (nI (97 + jj))] hOx rfl (c_X11_choose l D z B lo _ hx o on kp ss rr pn (nI rr) st dn wt br gv ed ee a n1 q1 es mo nd lf T ff b n2 q2 (nI pm) en2 es2 mo2 lf2 U pa st9 nu en9 ca cf jj hOx hRm hEn hPa hcp hnn k2 hG k3 k4 k5 hq hq2 hB wa da hst9 hk oa hn2 hst2 hlf hlf2 hen2 hsum rfl hrr k7 hss k6 hj hb) (cwV 3 hC.1.2.2.2.2 gL_talks_X11_choose rfl rfl rfl (by decide +kernel) ⟨Nat.le_of_ble_eq_true rfl, Nat.le_of_ble_eq_true rfl⟩) rfl rfl (Nat.le_of_ble_eq_true rfl) dL_talks_190 ⟨Nat.le_of_ble_eq_true rfl, Nat.le_of_ble_eq_true rfl⟩ (fun r146138 hi146139 h146140 hp146141 => ?_)
                      obtain ⟨i_h146140, f_h146140, ⟨st_h146140, dn_h146140, wt_h146140, br_h146140, ed_h146140, R_h146140, su_h146140⟩, E_h146140, F_h146140, ⟨pa_h146140, s9_h146140, nu_h146140, e9_h146140, ca_h146140, cf_h146140, B_h146140, b6_h146140⟩, r_h146140⟩ := hp146141
                      subst i_h146140
                      have O_h146140 : ObS h146140 o on kp := hOx.kept (fun q _ _ => f_h146140 q (by omega) (by omega) (by omega) (by omega))
                      have Pa_h146140 : PrC z h146140 a nd T := hPa.kept (fun q _ _ => f_h146140 q (by omega) (by omega) (by omega) (by omega))
                      obtain ⟨n_h146140, en_h146140, es_h146140, q_h146140, mo_h146140, lf_h146140, En_h146140, hn_h146140, ks_h146140, hq_h146140, hl_h146140, he_h146140⟩ := id E_h146140
                      rcases r_h146140 with r146138e | r146138e | r146138e
                      · subst r146138e
                        obtain ⟨v1_h146140, v2_h146140, v3_h146140⟩ := b6_h146140 rfl
                        subst v1_h146140; subst v2_h146140
                        refine ax_istore hC [(11, .int (-6)), (12, .int (nI jj)), (10, .int 3), (9, .int (pLb T n1)), (8, .int (nI pn)), (7, .int (nI ee)), (6, .int (nI (cnV kv (fr + ii)))), (5, .int (nI ii)), (0, .ref o), (1, .int (nI sn)), (2, .ref (kr 19)), (3, .int (nI fr)), (4, .int 24)] dL_talks_193 (by decide) rfl ?_
                        refine ax_iload hC 0 dL_talks_195 rfl ?_
                        refine ax_bipush (v := (-6)) hC dL_talks_197 (by decide) ?_
                        refine ax_icmp_ne (tgt := 213) hC dL_talks_199 (by decide) (fun c146142 => ?_) (fun c146142 => ?_)
                        · exact absurd c146142 (by decide)
                        · refine ax_aload_n hC 8 dL_talks_202 rfl rfl ?_
                          refine ax_iconst (v := 2) hC dL_talks_203 (by decide) ?_
                          refine ax_callVp (st := []) hC [.int 2] O_h146140 rfl (c_X11_blame_2 l D z B lo _ h146140 o on kp ss (nI rr) st_h146140 dn_h146140 wt_h146140 br_h146140 gv ed_h146140 pa_h146140 s9_h146140 e9_h146140 cf_h146140 O_h146140 R_h146140 B_h146140) (cwV 1 hC.1.2.2.2.2 gL_talks_X11_blame rfl rfl rfl (by decide +kernel) ⟨Nat.le_of_ble_eq_true rfl, Nat.le_of_ble_eq_true rfl⟩) rfl rfl (Nat.le_of_ble_eq_true rfl) dL_talks_204 ⟨Nat.le_of_ble_eq_true rfl, Nat.le_of_ble_eq_true rfl⟩ (fun r146143 er146144 => ?_)
                          subst er146144
                          refine ax_iconst (v := 3) hC dL_talks_207 (by decide) ?_
                          refine ax_icmp_eq (tgt := 213) hC dL_talks_208 (by decide) (fun c146145 => ?_) (fun c146145 => ?_)
                          · refine ax_iload hC 0 dL_talks_213 rfl ?_
                            refine ax_bipush (v := (-6)) hC dL_talks_215 (by decide) ?_
                            refine ax_icmp_ne (tgt := 240) hC dL_talks_217 (by decide) (fun c146146 => ?_) (fun c146146 => ?_)
                            · exact absurd c146146 (by decide)
                            · refine ax_aload_n hC 8 dL_talks_220 rfl rfl ?_
                              refine ax_iconst (v := 5) hC dL_talks_221 (by decide) ?_
                              refine ax_callVp (st := []) hC [.int 5] O_h146140 rfl (c_X11_blame_5 l D z B lo _ h146140 o on kp ss (nI rr) st_h146140 dn_h146140 wt_h146140 br_h146140 gv ed_h146140 pa_h146140 s9_h146140 e9_h146140 cf_h146140 O_h146140 R_h146140 B_h146140) (cwV 1 hC.1.2.2.2.2 gL_talks_X11_blame rfl rfl rfl (by decide +kernel) ⟨Nat.le_of_ble_eq_true rfl, Nat.le_of_ble_eq_true rfl⟩) rfl rfl (Nat.le_of_ble_eq_true rfl) dL_talks_222 ⟨Nat.le_of_ble_eq_true rfl, Nat.le_of_ble_eq_true rfl⟩ (fun r146147 er146148 => ?_)
                              subst er146148
                              refine ax_aload_n hC 8 dL_talks_225 rfl rfl ?_
                              refine ax_bipush (v := 6) hC dL_talks_226 (by decide) ?_
                              refine ax_callVp (st := [.int (cf_h146140 0)]) hC [.int 6] O_h146140 rfl (c_X11_blame_6 l D z B lo _ h146140 o on kp ss (nI rr) st_h146140 dn_h146140 wt_h146140 br_h146140 gv ed_h146140 pa_h146140 s9_h146140 e9_h146140 cf_h146140 O_h146140 R_h146140 B_h146140) (cwV 1 hC.1.2.2.2.2 gL_talks_X11_blame rfl rfl rfl (by decide +kernel) ⟨Nat.le_of_ble_eq_true rfl, Nat.le_of_ble_eq_true rfl⟩) rfl rfl (Nat.le_of_ble_eq_true rfl) dL_talks_228 ⟨Nat.le_of_ble_eq_true rfl, Nat.le_of_ble_eq_true rfl⟩ (fun r146149 er146150 => ?_)
                              subst er146150
                              refine ax_icmp_ne (tgt := 238) hC dL_talks_231 (by decide) (fun c146151 => ?_) (fun c146151 => ?_)
                              · exact absurd v3_h146140 c146151
                              · refine ax_iconst (v := 1) hC dL_talks_234 (by decide) ?_
                                refine ax_goto (tgt := 239) hC dL_talks_235 (by decide) ?_
                                refine ax_zret hC hr hlocks dL_talks_239 (by decide) ?_
                                exact ⟨rfl, rfl, (fun q g1 g2 g3 => (f_h146140 q g1 (by omega) (by omega) g3).trans (hfr q g1 g2 g3)), O_h146140, ⟨_, _, _, _, _, R_h146140, su_h146140⟩, (back h146140 E_h146140 F_h146140).1, (back h146140 E_h146140 F_h146140).2, ⟨_, _, _, _, _, _, B_h146140⟩, (hP1.kept (fun q _ _ => f_h146140 q (by omega) (by omega) (by omega) (by omega))), (hP2.kept (fun q _ _ => f_h146140 q (by omega) (by omega) (by omega) (by omega)))⟩
                          · exact absurd c146145 (by decide)
                      · subst r146138e
                        refine ax_istore hC [(11, .int (-4)), (12, .int (nI jj)), (10, .int 3), (9, .int (pLb T n1)), (8, .int (nI pn)), (7, .int (nI ee)), (6, .int (nI (cnV kv (fr + ii)))), (5, .int (nI ii)), (0, .ref o), (1, .int (nI sn)), (2, .ref (kr 19)), (3, .int (nI fr)), (4, .int 24)] dL_talks_193 (by decide) rfl ?_
                        refine ax_iload hC 0 dL_talks_195 rfl ?_
                        refine ax_bipush (v := (-6)) hC dL_talks_197 (by decide) ?_
                        refine ax_icmp_ne (tgt := 213) hC dL_talks_199 (by decide) (fun c146152 => ?_) (fun c146152 => ?_)
                        · refine ax_iload hC 0 dL_talks_213 rfl ?_
                          refine ax_bipush (v := (-6)) hC dL_talks_215 (by decide) ?_
                          refine ax_icmp_ne (tgt := 240) hC dL_talks_217 (by decide) (fun c146153 => ?_) (fun c146153 => ?_)
                          · refine ax_iload hC 0 dL_talks_240 rfl ?_
                            refine ax_bipush (v := (-4)) hC dL_talks_242 (by decide) ?_
                            refine ax_icmp_eq (tgt := 252) hC dL_talks_244 (by decide) (fun c146154 => ?_) (fun c146154 => ?_)
                            · refine ax_aload_n hC 8 dL_talks_252 rfl rfl ?_
                              refine ax_iload hC 5 dL_talks_253 rfl ?_
                              refine ax_iconst (v := 3) hC dL_talks_255 (by decide) ?_
                              refine ax_callVp (st := []) hC [.int (nI ee), .int 3] O_h146140 rfl (c_X11_look_3 l D z B lo _ h146140 o on kp ss (nI rr) st_h146140 dn_h146140 wt_h146140 br_h146140 gv ed_h146140 ee a n_h146140 q_h146140 (nI pn) en_h146140 es_h146140 mo_h146140 nd lf_h146140 T O_h146140 R_h146140 En_h146140 Pa_h146140 hcp hn_h146140 k2 hss k6 he_h146140) (cwV 2 hC.1.2.2.2.2 gL_talks_X11_look rfl rfl rfl (by decide +kernel) ⟨Nat.le_of_ble_eq_true rfl, Nat.le_of_ble_eq_true rfl⟩) rfl rfl (Nat.le_of_ble_eq_true rfl) dL_talks_256 ⟨Nat.le_of_ble_eq_true rfl, Nat.le_of_ble_eq_true rfl⟩ (fun r146155 er146156 => ?_)
                              rw [er146156]
                              refine ax_iconst (v := 4) hC dL_talks_259 (by decide) ?_
                              refine ax_icmp_le (tgt := 265) hC dL_talks_260 (by decide) (fun c146157 => ?_) (fun c146157 => ?_)
                              · refine ax_iinc (v := nI (ii + 1)) hC 7 [(5, .int (nI (ii + 1))), (11, .int (-4)), (12, .int (nI jj)), (10, .int 3), (9, .int (pLb T n1)), (8, .int (nI pn)), (7, .int (nI ee)), (6, .int (nI (cnV kv (fr + ii)))), (0, .ref o), (1, .int (nI sn)), (2, .ref (kr 19)), (3, .int (nI fr)), (4, .int 24)] dL_talks_265 rfl (nI_1 _) (by decide) rfl ?_
                                refine ax_goto (tgt := 3) hC dL_talks_268 (by decide) ?_
                                refine ax_locals [0, 8, 9, 10, 11, 12] (L' := [(5, .int (nI (ii + 1))), (0, .ref o), (1, .int (nI sn)), (2, .ref (kr 19)), (3, .int (nI fr)), (4, .int 24)]) rfl ?_
                                exact ih (ii + 1) h146140 (by omega) O_h146140 ⟨_, _, _, _, _, R_h146140, su_h146140⟩ (back h146140 E_h146140 F_h146140).1 (back h146140 E_h146140 F_h146140).2 ⟨_, _, _, _, _, _, B_h146140⟩ (hP1.kept (fun q _ _ => f_h146140 q (by omega) (by omega) (by omega) (by omega))) (hP2.kept (fun q _ _ => f_h146140 q (by omega) (by omega) (by omega) (by omega))) (fun q g1 g2 g3 => (f_h146140 q g1 (by omega) (by omega) g3).trans (hfr q g1 g2 g3))
                              · exact absurd (nI_le (a := q_h146140) (b := 4) hq_h146140 (by decide)) c146157
                            · exact absurd c146154 (by decide)
                          · exact absurd c146153 (by decide)
                        · exact absurd c146152 (by decide)
                      · refine ax_istore hC [(11, .int r146138), (12, .int (nI jj)), (10, .int 3), (9, .int (pLb T n1)), (8, .int (nI pn)), (7, .int (nI ee)), (6, .int (nI (cnV kv (fr + ii)))), (5, .int (nI ii)), (0, .ref o), (1, .int (nI sn)), (2, .ref (kr 19)), (3, .int (nI fr)), (4, .int 24)] dL_talks_193 (by decide) rfl ?_
                        refine ax_iload hC 0 dL_talks_195 rfl ?_
                        refine ax_bipush (v := (-6)) hC dL_talks_197 (by decide) ?_
                        refine ax_icmp_ne (tgt := 213) hC dL_talks_199 (by decide) (fun c146159 => ?_) (fun c146159 => ?_)
                        · refine ax_iload hC 0 dL_talks_213 rfl ?_
                          refine ax_bipush (v := (-6)) hC dL_talks_215 (by decide) ?_
                          refine ax_icmp_ne (tgt := 240) hC dL_talks_217 (by decide) (fun c146160 => ?_) (fun c146160 => ?_)
                          · refine ax_iload hC 0 dL_talks_240 rfl ?_
                            refine ax_bipush (v := (-4)) hC dL_talks_242 (by decide) ?_
                            refine ax_icmp_eq (tgt := 252) hC dL_talks_244 (by decide) (fun c146161 => ?_) (fun c146161 => ?_)
                            · exact absurd (c146161 ▸ r146138e) (by decide)
                            · refine ax_iload hC 0 dL_talks_247 rfl ?_
                              refine ax_if_lt (tgt := 263) hC dL_talks_249 (by decide) (fun c146162 => ?_) (fun c146162 => ?_)
                              · exact absurd c146162 (Int32.not_lt.mpr r146138e)
                              · refine ax_aload_n hC 8 dL_talks_252 rfl rfl ?_
                                refine ax_iload hC 5 dL_talks_253 rfl ?_
                                refine ax_iconst (v := 3) hC dL_talks_255 (by decide) ?_
                                refine ax_callVp (st := []) hC [.int (nI ee), .int 3] O_h146140 rfl (c_X11_look_3 l D z B lo _ h146140 o on kp ss (nI rr) st_h146140 dn_h146140 wt_h146140 br_h146140 gv ed_h146140 ee a n_h146140 q_h146140 (nI pn) en_h146140 es_h146140 mo_h146140 nd lf_h146140 T O_h146140 R_h146140 En_h146140 Pa_h146140 hcp hn_h146140 k2 hss k6 he_h146140) (cwV 2 hC.1.2.2.2.2 gL_talks_X11_look rfl rfl rfl (by decide +kernel) ⟨Nat.le_of_ble_eq_true rfl, Nat.le_of_ble_eq_true rfl⟩) rfl rfl (Nat.le_of_ble_eq_true rfl) dL_talks_256 ⟨Nat.le_of_ble_eq_true rfl, Nat.le_of_ble_eq_true rfl⟩ (fun r146163 er146164 => ?_)
                                rw [er146164]
                                refine ax_iconst (v := 4) hC dL_talks_259 (by decide) ?_
                                refine ax_icmp_le (tgt := 265) hC dL_talks_260 (by decide) (fun c146165 => ?_) (fun c146165 => ?_)
                                · refine ax_iinc (v := nI (ii + 1)) hC 7 [(5, .int (nI (ii + 1))), (11, .int r146138), (12, .int (nI jj)), (10, .int 3), (9, .int (pLb T n1)), (8, .int (nI pn)), (7, .int (nI ee)), (6, .int (nI (cnV kv (fr + ii)))), (0, .ref o), (1, .int (nI sn)), (2, .ref (kr 19)), (3, .int (nI fr)), (4, .int 24)] dL_talks_265 rfl (nI_1 _) (by decide) rfl ?_
                                  refine ax_goto (tgt := 3) hC dL_talks_268 (by decide) ?_
                                  refine ax_locals [0, 8, 9, 10, 11, 12] (L' := [(5, .int (nI (ii + 1))), (0, .ref o), (1, .int (nI sn)), (2, .ref (kr 19)), (3, .int (nI fr)), (4, .int 24)]) rfl ?_
                                  exact ih (ii + 1) h146140 (by omega) O_h146140 ⟨_, _, _, _, _, R_h146140, su_h146140⟩ (back h146140 E_h146140 F_h146140).1 (back h146140 E_h146140 F_h146140).2 ⟨_, _, _, _, _, _, B_h146140⟩ (hP1.kept (fun q _ _ => f_h146140 q (by omega) (by omega) (by omega) (by omega))) (hP2.kept (fun q _ _ => f_h146140 q (by omega) (by omega) (by omega) (by omega))) (fun q g1 g2 g3 => (f_h146140 q g1 (by omega) (by omega) g3).trans (hfr q g1 g2 g3))
                                · exact absurd (nI_le (a := q_h146140) (b := 4) hq_h146140 (by decide)) c146165
                          · exact absurd c146160 c146159
                        · exact absurd (c146159 ▸ r146138e) (by decide)
                  · exact absurd c146136 (by decide)
                · exact absurd c146135 (by decide)
              · exact absurd c146134 (by decide)
            · exact absurd c146133 (by decide)
          · rw [hk]
            refine ax_iconst (v := 0) hC dL_talks_71 (by decide) ?_
            refine ax_istore hC [(11, .int 0), (10, .int 4), (9, .int (pLb T n1)), (8, .int (nI pn)), (7, .int (nI ee)), (6, .int (nI (cnV kv (fr + ii)))), (5, .int (nI ii)), (0, .ref o), (1, .int (nI sn)), (2, .ref (kr 19)), (3, .int (nI fr)), (4, .int 24)] dL_talks_72 (by decide) rfl ?_
            refine ax_iload hC 1 dL_talks_74 rfl ?_
            refine ax_if_ne (tgt := 89) hC dL_talks_76 (by decide) (fun c146167 => ?_) (fun c146167 => ?_)
            · refine ax_iload hC 1 dL_talks_89 rfl ?_
              refine ax_iconst (v := 1) hC dL_talks_91 (by decide) ?_
              refine ax_icmp_ne (tgt := 111) hC dL_talks_92 (by decide) (fun c146168 => ?_) (fun c146168 => ?_)
              · refine ax_iload hC 1 dL_talks_111 rfl ?_
                refine ax_iconst (v := 2) hC dL_talks_113 (by decide) ?_
                refine ax_icmp_ne (tgt := 127) hC dL_talks_114 (by decide) (fun c146169 => ?_) (fun c146169 => ?_)
                · refine ax_iload hC 1 dL_talks_127 rfl ?_
                  refine ax_iconst (v := 4) hC dL_talks_129 (by decide) ?_
                  refine ax_icmp_ne (tgt := 143) hC dL_talks_130 (by decide) (fun c146170 => ?_) (fun c146170 => ?_)
                  · exact absurd c146170 (by decide)
                  · refine ax_aload_n hC 7 dL_talks_133 rfl rfl ?_
                    refine ax_iload hC 3 dL_talks_134 rfl ?_
                    refine ax_iload hC 4 dL_talks_136 rfl ?_
                    refine ax_callVi (st := []) hC [.int (nI pn), .int (nI ee)] hOx rfl (c_X11_offered l D z B lo _ hx o on kp ss rr pn (nI rr) st dn wt br gv ed ee a n1 q1 es mo nd lf T ff b n2 q2 (nI pm) en2 es2 mo2 lf2 U pa st9 nu en9 ca cf hOx hRm hEn hPa hcp hnn k2 hG k3 k4 k5 hq hq2 hB wa da hst9 hk oa hn2 hst2 hlf hlf2 hen2 hsum rfl hrr k7 hss k6) (cwV 2 hC.1.2.2.2.2 gL_talks_X11_offered rfl rfl rfl (by decide +kernel) ⟨Nat.le_of_ble_eq_true rfl, Nat.le_of_ble_eq_true rfl⟩) rfl rfl (Nat.le_of_ble_eq_true rfl) dL_talks_138 ⟨Nat.le_of_ble_eq_true rfl, Nat.le_of_ble_eq_true rfl⟩ (fun r146171 hi146172 h146173 hp146174 => ?_)
                    obtain ⟨i_h146173, f_h146173, ⟨st_h146173, dn_h146173, wt_h146173, br_h146173, ed_h146173, R_h146173, su_h146173⟩, E_h146173, F_h146173, ⟨pa_h146173, s9_h146173, nu_h146173, e9_h146173, ca_h146173, cf_h146173, B_h146173, b6_h146173⟩, r_h146173⟩ := hp146174
                    subst i_h146173
                    have O_h146173 : ObS h146173 o on kp := hOx.kept (fun q _ _ => f_h146173 q (by omega) (by omega) (by omega) (by omega))
                    have Pa_h146173 : PrC z h146173 a nd T := hPa.kept (fun q _ _ => f_h146173 q (by omega) (by omega) (by omega) (by omega))
                    obtain ⟨n_h146173, en_h146173, es_h146173, q_h146173, mo_h146173, lf_h146173, En_h146173, hn_h146173, ks_h146173, hq_h146173, hl_h146173, he_h146173⟩ := id E_h146173
                    rcases r_h146173 with r146171e | r146171e | r146171e
                    · subst r146171e
                      obtain ⟨v1_h146173, v2_h146173, v3_h146173⟩ := b6_h146173 rfl
                      subst v1_h146173; subst v2_h146173
                      refine ax_istore hC [(11, .int (-6)), (10, .int 4), (9, .int (pLb T n1)), (8, .int (nI pn)), (7, .int (nI ee)), (6, .int (nI (cnV kv (fr + ii)))), (5, .int (nI ii)), (0, .ref o), (1, .int (nI sn)), (2, .ref (kr 19)), (3, .int (nI fr)), (4, .int 24)] dL_talks_141 (by decide) rfl ?_
                      refine ax_iload hC 1 dL_talks_143 rfl ?_
                      refine ax_iconst (v := 3) hC dL_talks_145 (by decide) ?_
                      refine ax_icmp_ne (tgt := 195) hC dL_talks_146 (by decide) (fun c146175 => ?_) (fun c146175 => ?_)
                      · refine ax_iload hC 0 dL_talks_195 rfl ?_
                        refine ax_bipush (v := (-6)) hC dL_talks_197 (by decide) ?_
                        refine ax_icmp_ne (tgt := 213) hC dL_talks_199 (by decide) (fun c146176 => ?_) (fun c146176 => ?_)
                        · exact absurd c146176 (by decide)
                        · refine ax_aload_n hC 7 dL_talks_202 rfl rfl ?_
                          refine ax_iconst (v := 2) hC dL_talks_203 (by decide) ?_
                          refine ax_callVp (st := []) hC [.int 2] O_h146173 rfl (c_X11_blame_2 l D z B lo _ h146173 o on kp ss (nI rr) st_h146173 dn_h146173 wt_h146173 br_h146173 gv ed_h146173 pa_h146173 s9_h146173 e9_h146173 cf_h146173 O_h146173 R_h146173 B_h146173) (cwV 1 hC.1.2.2.2.2 gL_talks_X11_blame rfl rfl rfl (by decide +kernel) ⟨Nat.le_of_ble_eq_true rfl, Nat.le_of_ble_eq_true rfl⟩) rfl rfl (Nat.le_of_ble_eq_true rfl) dL_talks_204 ⟨Nat.le_of_ble_eq_true rfl, Nat.le_of_ble_eq_true rfl⟩ (fun r146177 er146178 => ?_)
                          subst er146178
                          refine ax_iconst (v := 3) hC dL_talks_207 (by decide) ?_
                          refine ax_icmp_eq (tgt := 213) hC dL_talks_208 (by decide) (fun c146179 => ?_) (fun c146179 => ?_)
                          · refine ax_iload hC 0 dL_talks_213 rfl ?_
                            refine ax_bipush (v := (-6)) hC dL_talks_215 (by decide) ?_
                            refine ax_icmp_ne (tgt := 240) hC dL_talks_217 (by decide) (fun c146180 => ?_) (fun c146180 => ?_)
                            · exact absurd c146180 (by decide)
                            · refine ax_aload_n hC 7 dL_talks_220 rfl rfl ?_
                              refine ax_iconst (v := 5) hC dL_talks_221 (by decide) ?_
                              refine ax_callVp (st := []) hC [.int 5] O_h146173 rfl (c_X11_blame_5 l D z B lo _ h146173 o on kp ss (nI rr) st_h146173 dn_h146173 wt_h146173 br_h146173 gv ed_h146173 pa_h146173 s9_h146173 e9_h146173 cf_h146173 O_h146173 R_h146173 B_h146173) (cwV 1 hC.1.2.2.2.2 gL_talks_X11_blame rfl rfl rfl (by decide +kernel) ⟨Nat.le_of_ble_eq_true rfl, Nat.le_of_ble_eq_true rfl⟩) rfl rfl (Nat.le_of_ble_eq_true rfl) dL_talks_222 ⟨Nat.le_of_ble_eq_true rfl, Nat.le_of_ble_eq_true rfl⟩ (fun r146181 er146182 => ?_)
                              subst er146182
                              refine ax_aload_n hC 7 dL_talks_225 rfl rfl ?_
                              refine ax_bipush (v := 6) hC dL_talks_226 (by decide) ?_
                              refine ax_callVp (st := [.int (cf_h146173 0)]) hC [.int 6] O_h146173 rfl (c_X11_blame_6 l D z B lo _ h146173 o on kp ss (nI rr) st_h146173 dn_h146173 wt_h146173 br_h146173 gv ed_h146173 pa_h146173 s9_h146173 e9_h146173 cf_h146173 O_h146173 R_h146173 B_h146173) (cwV 1 hC.1.2.2.2.2 gL_talks_X11_blame rfl rfl rfl (by decide +kernel) ⟨Nat.le_of_ble_eq_true rfl, Nat.le_of_ble_eq_true rfl⟩) rfl rfl (Nat.le_of_ble_eq_true rfl) dL_talks_228 ⟨Nat.le_of_ble_eq_true rfl, Nat.le_of_ble_eq_true rfl⟩ (fun r146183 er146184 => ?_)
                              subst er146184
                              refine ax_icmp_ne (tgt := 238) hC dL_talks_231 (by decide) (fun c146185 => ?_) (fun c146185 => ?_)
                              · exact absurd v3_h146173 c146185
                              · refine ax_iconst (v := 1) hC dL_talks_234 (by decide) ?_
                                refine ax_goto (tgt := 239) hC dL_talks_235 (by decide) ?_
                                refine ax_zret hC hr hlocks dL_talks_239 (by decide) ?_
                                exact ⟨rfl, rfl, (fun q g1 g2 g3 => (f_h146173 q g1 (by omega) (by omega) g3).trans (hfr q g1 g2 g3)), O_h146173, ⟨_, _, _, _, _, R_h146173, su_h146173⟩, (back h146173 E_h146173 F_h146173).1, (back h146173 E_h146173 F_h146173).2, ⟨_, _, _, _, _, _, B_h146173⟩, (hP1.kept (fun q _ _ => f_h146173 q (by omega) (by omega) (by omega) (by omega))), (hP2.kept (fun q _ _ => f_h146173 q (by omega) (by omega) (by omega) (by omega)))⟩
                          · exact absurd c146179 (by decide)
                      · exact absurd c146175 (by decide)
                    · subst r146171e
                      refine ax_istore hC [(11, .int (-4)), (10, .int 4), (9, .int (pLb T n1)), (8, .int (nI pn)), (7, .int (nI ee)), (6, .int (nI (cnV kv (fr + ii)))), (5, .int (nI ii)), (0, .ref o), (1, .int (nI sn)), (2, .ref (kr 19)), (3, .int (nI fr)), (4, .int 24)] dL_talks_141 (by decide) rfl ?_
                      refine ax_iload hC 1 dL_talks_143 rfl ?_
                      refine ax_iconst (v := 3) hC dL_talks_145 (by decide) ?_
                      refine ax_icmp_ne (tgt := 195) hC dL_talks_146 (by decide) (fun c146186 => ?_) (fun c146186 => ?_)
                      · refine ax_iload hC 0 dL_talks_195 rfl ?_
                        refine ax_bipush (v := (-6)) hC dL_talks_197 (by decide) ?_
                        refine ax_icmp_ne (tgt := 213) hC dL_talks_199 (by decide) (fun c146187 => ?_) (fun c146187 => ?_)
                        · refine ax_iload hC 0 dL_talks_213 rfl ?_
                          refine ax_bipush (v := (-6)) hC dL_talks_215 (by decide) ?_
                          refine ax_icmp_ne (tgt := 240) hC dL_talks_217 (by decide) (fun c146188 => ?_) (fun c146188 => ?_)
                          · refine ax_iload hC 0 dL_talks_240 rfl ?_
                            refine ax_bipush (v := (-4)) hC dL_talks_242 (by decide) ?_
                            refine ax_icmp_eq (tgt := 252) hC dL_talks_244 (by decide) (fun c146189 => ?_) (fun c146189 => ?_)
                            · refine ax_aload_n hC 7 dL_talks_252 rfl rfl ?_
                              refine ax_iload hC 4 dL_talks_253 rfl ?_
                              refine ax_iconst (v := 3) hC dL_talks_255 (by decide) ?_
                              refine ax_callVp (st := []) hC [.int (nI ee), .int 3] O_h146173 rfl (c_X11_look_3 l D z B lo _ h146173 o on kp ss (nI rr) st_h146173 dn_h146173 wt_h146173 br_h146173 gv ed_h146173 ee a n_h146173 q_h146173 (nI pn) en_h146173 es_h146173 mo_h146173 nd lf_h146173 T O_h146173 R_h146173 En_h146173 Pa_h146173 hcp hn_h146173 k2 hss k6 he_h146173) (cwV 2 hC.1.2.2.2.2 gL_talks_X11_look rfl rfl rfl (by decide +kernel) ⟨Nat.le_of_ble_eq_true rfl, Nat.le_of_ble_eq_true rfl⟩) rfl rfl (Nat.le_of_ble_eq_true rfl) dL_talks_256 ⟨Nat.le_of_ble_eq_true rfl, Nat.le_of_ble_eq_true rfl⟩ (fun r146190 er146191 => ?_)
                              rw [er146191]
                              refine ax_iconst (v := 4) hC dL_talks_259 (by decide) ?_
                              refine ax_icmp_le (tgt := 265) hC dL_talks_260 (by decide) (fun c146192 => ?_) (fun c146192 => ?_)
                              · refine ax_iinc (v := nI (ii + 1)) hC 6 [(5, .int (nI (ii + 1))), (11, .int (-4)), (10, .int 4), (9, .int (pLb T n1)), (8, .int (nI pn)), (7, .int (nI ee)), (6, .int (nI (cnV kv (fr + ii)))), (0, .ref o), (1, .int (nI sn)), (2, .ref (kr 19)), (3, .int (nI fr)), (4, .int 24)] dL_talks_265 rfl (nI_1 _) (by decide) rfl ?_
                                refine ax_goto (tgt := 3) hC dL_talks_268 (by decide) ?_
                                refine ax_locals [0, 7, 8, 9, 10, 11] (L' := [(5, .int (nI (ii + 1))), (0, .ref o), (1, .int (nI sn)), (2, .ref (kr 19)), (3, .int (nI fr)), (4, .int 24)]) rfl ?_
                                exact ih (ii + 1) h146173 (by omega) O_h146173 ⟨_, _, _, _, _, R_h146173, su_h146173⟩ (back h146173 E_h146173 F_h146173).1 (back h146173 E_h146173 F_h146173).2 ⟨_, _, _, _, _, _, B_h146173⟩ (hP1.kept (fun q _ _ => f_h146173 q (by omega) (by omega) (by omega) (by omega))) (hP2.kept (fun q _ _ => f_h146173 q (by omega) (by omega) (by omega) (by omega))) (fun q g1 g2 g3 => (f_h146173 q g1 (by omega) (by omega) g3).trans (hfr q g1 g2 g3))
                              · exact absurd (nI_le (a := q_h146173) (b := 4) hq_h146173 (by decide)) c146192
                            · exact absurd c146189 (by decide)
                          · exact absurd c146188 (by decide)
                        · exact absurd c146187 (by decide)
                      · exact absurd c146186 (by decide)
                    · refine ax_istore hC [(11, .int r146171), (10, .int 4), (9, .int (pLb T n1)), (8, .int (nI pn)), (7, .int (nI ee)), (6, .int (nI (cnV kv (fr + ii)))), (5, .int (nI ii)), (0, .ref o), (1, .int (nI sn)), (2, .ref (kr 19)), (3, .int (nI fr)), (4, .int 24)] dL_talks_141 (by decide) rfl ?_
                      refine ax_iload hC 1 dL_talks_143 rfl ?_
                      refine ax_iconst (v := 3) hC dL_talks_145 (by decide) ?_
                      refine ax_icmp_ne (tgt := 195) hC dL_talks_146 (by decide) (fun c146194 => ?_) (fun c146194 => ?_)
                      · refine ax_iload hC 0 dL_talks_195 rfl ?_
                        refine ax_bipush (v := (-6)) hC dL_talks_197 (by decide) ?_
                        refine ax_icmp_ne (tgt := 213) hC dL_talks_199 (by decide) (fun c146195 => ?_) (fun c146195 => ?_)
                        · refine ax_iload hC 0 dL_talks_213 rfl ?_
                          refine ax_bipush (v := (-6)) hC dL_talks_215 (by decide) ?_
                          refine ax_icmp_ne (tgt := 240) hC dL_talks_217 (by decide) (fun c146196 => ?_) (fun c146196 => ?_)
                          · refine ax_iload hC 0 dL_talks_240 rfl ?_
                            refine ax_bipush (v := (-4)) hC dL_talks_242 (by decide) ?_
                            refine ax_icmp_eq (tgt := 252) hC dL_talks_244 (by decide) (fun c146197 => ?_) (fun c146197 => ?_)
                            · exact absurd (c146197 ▸ r146171e) (by decide)
                            · refine ax_iload hC 0 dL_talks_247 rfl ?_
                              refine ax_if_lt (tgt := 263) hC dL_talks_249 (by decide) (fun c146198 => ?_) (fun c146198 => ?_)
                              · exact absurd c146198 (Int32.not_lt.mpr r146171e)
                              · refine ax_aload_n hC 7 dL_talks_252 rfl rfl ?_
                                refine ax_iload hC 4 dL_talks_253 rfl ?_
                                refine ax_iconst (v := 3) hC dL_talks_255 (by decide) ?_
                                refine ax_callVp (st := []) hC [.int (nI ee), .int 3] O_h146173 rfl (c_X11_look_3 l D z B lo _ h146173 o on kp ss (nI rr) st_h146173 dn_h146173 wt_h146173 br_h146173 gv ed_h146173 ee a n_h146173 q_h146173 (nI pn) en_h146173 es_h146173 mo_h146173 nd lf_h146173 T O_h146173 R_h146173 En_h146173 Pa_h146173 hcp hn_h146173 k2 hss k6 he_h146173) (cwV 2 hC.1.2.2.2.2 gL_talks_X11_look rfl rfl rfl (by decide +kernel) ⟨Nat.le_of_ble_eq_true rfl, Nat.le_of_ble_eq_true rfl⟩) rfl rfl (Nat.le_of_ble_eq_true rfl) dL_talks_256 ⟨Nat.le_of_ble_eq_true rfl, Nat.le_of_ble_eq_true rfl⟩ (fun r146199 er146200 => ?_)
                                rw [er146200]
                                refine ax_iconst (v := 4) hC dL_talks_259 (by decide) ?_
                                refine ax_icmp_le (tgt := 265) hC dL_talks_260 (by decide) (fun c146201 => ?_) (fun c146201 => ?_)
                                · refine ax_iinc (v := nI (ii + 1)) hC 6 [(5, .int (nI (ii + 1))), (11, .int r146171), (10, .int 4), (9, .int (pLb T n1)), (8, .int (nI pn)), (7, .int (nI ee)), (6, .int (nI (cnV kv (fr + ii)))), (0, .ref o), (1, .int (nI sn)), (2, .ref (kr 19)), (3, .int (nI fr)), (4, .int 24)] dL_talks_265 rfl (nI_1 _) (by decide) rfl ?_
                                  refine ax_goto (tgt := 3) hC dL_talks_268 (by decide) ?_
                                  refine ax_locals [0, 7, 8, 9, 10, 11] (L' := [(5, .int (nI (ii + 1))), (0, .ref o), (1, .int (nI sn)), (2, .ref (kr 19)), (3, .int (nI fr)), (4, .int 24)]) rfl ?_
                                  exact ih (ii + 1) h146173 (by omega) O_h146173 ⟨_, _, _, _, _, R_h146173, su_h146173⟩ (back h146173 E_h146173 F_h146173).1 (back h146173 E_h146173 F_h146173).2 ⟨_, _, _, _, _, _, B_h146173⟩ (hP1.kept (fun q _ _ => f_h146173 q (by omega) (by omega) (by omega) (by omega))) (hP2.kept (fun q _ _ => f_h146173 q (by omega) (by omega) (by omega) (by omega))) (fun q g1 g2 g3 => (f_h146173 q g1 (by omega) (by omega) g3).trans (hfr q g1 g2 g3))
                                · exact absurd (nI_le (a := q_h146173) (b := 4) hq_h146173 (by decide)) c146201
                          · exact absurd c146196 c146195
                        · exact absurd (c146195 ▸ r146171e) (by decide)
                      · exact absurd c146194 (by decide)
                · exact absurd c146169 (by decide)
              · exact absurd c146168 (by decide)
            · exact absurd c146167 (by decide)
        · refine ax_goto (tgt := 265) hC dL_talks_68 (by decide) ?_
          refine ax_iinc (v := nI (ii + 1)) hC 5 [(5, .int (nI (ii + 1))), (10, .int (pK T n1)), (9, .int (pLb T n1)), (8, .int (nI pn)), (7, .int (nI ee)), (6, .int (nI (cnV kv (fr + ii)))), (0, .ref o), (1, .int (nI sn)), (2, .ref (kr 19)), (3, .int (nI fr)), (4, .int 24)] dL_talks_265 rfl (nI_1 _) (by decide) rfl ?_
          refine ax_goto (tgt := 3) hC dL_talks_268 (by decide) ?_
          refine ax_locals [0, 6, 7, 8, 9, 10] (L' := [(5, .int (nI (ii + 1))), (0, .ref o), (1, .int (nI sn)), (2, .ref (kr 19)), (3, .int (nI fr)), (4, .int 24)]) rfl ?_
          exact ih (ii + 1) hx (by omega) hOx hRx hE1 hE2 hBx hP1 hP2 hfr
  refine ax_iconst (v := 0) hC dL_talks_0 (by decide) ?_
  refine ax_istore hC [(5, .int 0), (0, .ref o), (1, .int (nI sn)), (2, .ref (kr 19)), (3, .int (nI fr)), (4, .int 24)] dL_talks_1 (by decide) rfl ?_
  refine ax_locals [0, 1, 2, 3, 4, 5] (L' := [(5, .int 0), (0, .ref o), (1, .int (nI sn)), (2, .ref (kr 19)), (3, .int (nI fr)), (4, .int 24)]) rfl ?_
  exact loop 24 0 h (by omega) hO hR hA1 hA2 hBl hQ1 hQ2 (fun _ _ _ _ => rfl)
