theorem vin_pa {i : Int32} {n : Nat} (h0 : ¬ i ≤ 0) (h1 : ¬ nI n ≤ i) (hn : n < 2 ^ 31) : vp_in i n := by
  refine vin_aa (fun q => h0 ?_) h1 hn
  rw [i32_lt, Int32.toInt_zero] at q
  rw [i32_le, Int32.toInt_zero]
  omega
theorem pred_neg {k : Nat} : nI k + (-1) = nI k - 1 := by rw [Int32.sub_eq_add_neg]

abbrev rmX3_write : Room := { frames := 0, cells := 0, slots := 0, locals := 0 }
set_option maxRecDepth 100000 in
set_option maxHeartbeats 4000000 in
theorem c_X3_write (l : Launch) (D : va_G) (z : Nat → ClassId) (B : Heap) (lo hi : Nat) (h : Nat → Option va_E) (hn cm : Nat) (len la nm : Int32) (Ls : List Nat) (hH : HinL z h hn cm len Ls) : Met l yX3_write wsX3_write rmX3_write (KP D vwCl B lo hi h (ty6 z) [.ref hn, .int la, .int nm]) (KQv D vwCl B lo (ty6 z) (fun hi' h' => hi' = hi ∧ (∀ q, (q < hn ∨ hn + 6 ≤ q) → h' q = h q) ∧ ∃ t, HinL z h' hn cm (nI (t + 1)) Ls ∧ t ≤ 3600)) 0 0 (fun q => lo ≤ q) := by
  obtain ⟨tx, pr, fm, sp, seen, q0, q1, q2, q3, q4, q5, hnd, hlt, hpr, hbit⟩ := hH
  refine ax_met (by decide) rfl (Nat.le_of_ble_eq_true rfl) (L0 := [(0, .ref hn), (1, .int la), (2, .int nm)]) rfl ?_
  intro p e s m args below meth c hC hr hlocks hnm hargs
  have iX3 : ∀ w ∈ u_ws RX3 TX3 8, w ∈ wsX3_write := by decide +kernel
  have LP2 : ∀ (t k : Nat) (hX : Nat → Option va_E) (i : Int32), t ≤ 3600 → k ≤ t → (∀ q, (q < hn ∨ hn + 6 ≤ q) → hX q = h q) → HinL z hX hn cm (nI (t + 1)) Ls → Gx p l e rmX3_write s m args below meth c D vwCl B lo 6 (MQ below (KQv D vwCl B lo (ty6 z) (fun hi' h' => hi' = hi ∧ (∀ q, (q < hn ∨ hn + 6 ≤ q) → h' q = h q) ∧ ∃ t, HinL z h' hn cm (nI (t + 1)) Ls ∧ t ≤ 3600)) args s 0 0 (fun q => lo ≤ q)) hi hX 0 0 [(5, .int (nI k - 1)), (4, .int i), (3, .int (nI t)), (2, .int nm), (1, .int la), (0, .ref hn)] 82 [] := by
    intro t k
    induction k with
    | zero =>
      intro hX i ht hk hfr hHX
      have hHX2 := hHX
      obtain ⟨tx, pr, fm, sp, seen, q0, q1, q2, q3, q4, q5, hnd, hlt, hpr, hbit⟩ := hHX
      refine ax_iload hC 0 dX3_write_82 rfl ?_
      refine ax_if_lt (tgt := 141) hC dX3_write_84 (by decide) (fun c1001 => ?_) (fun c1001 => ?_)
      · refine ax_vret hC hr hlocks dX3_write_141 ?_
        exact ⟨rfl, hfr, t, hHX2, ht⟩
      · exact absurd (by decide) c1001
    | succ k ih =>
      intro hX i ht hk hfr hHX
      have hHX2 := hHX
      obtain ⟨tx, pr, fm, sp, seen, q0, q1, q2, q3, q4, q5, hnd, hlt, hpr, hbit⟩ := hHX
      refine ax_iload hC 0 dX3_write_82 rfl ?_
      refine ax_if_lt (tgt := 141) hC dX3_write_84 (by decide) (fun c2001 => ?_) (fun c2001 => ?_)
      · exact absurd c2001 (by rw [nI_pred]; exact nI_pos (by omega))
      · refine ax_iload hC 1 dX3_write_87 rfl ?_
        refine ax_if_le (tgt := 141) hC dX3_write_89 (by decide) (fun c2002 => ?_) (fun c2002 => ?_)
        · refine ax_vret hC hr hlocks dX3_write_141 ?_
          exact ⟨rfl, hfr, t, hHX2, ht⟩
        · refine ax_iload hC 1 dX3_write_92 rfl ?_
          refine ax_aload_n hC 5 dX3_write_94 rfl rfl ?_
          refine ax_getf (v := .ref (hn + 4)) hC q0 iX3 rfl 5 (by decide) (by decide +kernel) rfl rfl dX3_write_95 ?_
          refine ax_alen (v := 3600) hC q4 1 rfl rfl dX3_write_98 ?_
          refine ax_icmp_ge (tgt := 141) hC dX3_write_99 (by decide) (fun c2003 => ?_) (fun c2003 => ?_)
          · refine ax_vret hC hr hlocks dX3_write_141 ?_
            exact ⟨rfl, hfr, t, hHX2, ht⟩
          · refine ax_iload hC 0 dX3_write_102 rfl ?_
            refine ax_aload_n hC 5 dX3_write_104 rfl rfl ?_
            refine ax_getf (v := .ref (hn + 1)) hC q0 iX3 rfl 0 (by decide) (by decide +kernel) rfl rfl dX3_write_105 ?_
            refine ax_alen (v := 3601) hC q1 1 rfl rfl dX3_write_108 ?_
            refine ax_icmp_ge (tgt := 126) hC dX3_write_109 (by decide) (fun c2004 => ?_) (fun c2004 => ?_)
            · exact absurd c2004 (by rw [nI_pred, L_leN (k := 3601) (by decide) (by omega)]; omega)
            · refine ax_aload_n hC 5 dX3_write_112 rfl rfl ?_
              refine ax_getf (v := .ref (hn + 1)) hC q0 iX3 rfl 0 (by decide) (by decide +kernel) rfl rfl dX3_write_113 ?_
              refine ax_iload hC 0 dX3_write_116 rfl ?_
              refine ax_aload_n hC 5 dX3_write_118 rfl rfl ?_
              refine ax_getf (v := .ref (hn + 5)) hC q0 iX3 rfl 6 (by decide) (by decide +kernel) rfl rfl dX3_write_119 ?_
              refine ax_iload hC 1 dX3_write_122 rfl ?_
              have b2005 : vp_in i 3600 := vin_pa c2002 c2003 (by first | decide | omega)
              refine ax_iald hC q5 1 rfl b2005 dX3_write_124 ?_
              have b2006 : vp_in (nI (k + 1) - 1) 3601 := by rw [nI_pred]; exact vp_in_nI (by omega) (by omega)
              refine ax_iast hC q1 1 rfl b2006 dX3_write_125 (fun h2007 e2008 f2009 => ?_)
              have x2010 : h2007 hn = some (.inr (5, [.ref (hn + 1), .int (nI (t + 1)), .ref cm, .ref (hn + 2), .ref (hn + 3), .ref (hn + 4), .ref (hn + 5), .int (nI Ls.length)])) := (f2009 _ (by omega)).trans q0
              have x2011 : h2007 (hn + 2) = some (.inl (z 2, 60, .inr (.inl (seen)))) := (f2009 _ (by omega)).trans q2
              have x2012 : h2007 (hn + 3) = some (.inl (z 1, 3600, .inl (pr))) := (f2009 _ (by omega)).trans q3
              have x2013 : h2007 (hn + 4) = some (.inl (z 1, 3600, .inl (fm))) := (f2009 _ (by omega)).trans q4
              have x2014 : h2007 (hn + 5) = some (.inl (z 1, 3600, .inl (sp))) := (f2009 _ (by omega)).trans q5
              refine ax_aload_n hC 5 dX3_write_126 rfl rfl ?_
              refine ax_getf (v := .ref (hn + 4)) hC x2010 iX3 rfl 5 (by decide) (by decide +kernel) rfl rfl dX3_write_127 ?_
              refine ax_iload hC 1 dX3_write_130 rfl ?_
              have b2015 : vp_in i 3600 := vin_pa c2002 c2003 (by first | decide | omega)
              refine ax_iald hC x2013 1 rfl b2015 dX3_write_132 ?_
              refine ax_istore hC [(4, .int (fm i.toNatClampNeg)), (5, .int (nI (k + 1) - 1)), (3, .int (nI t)), (2, .int nm), (1, .int la), (0, .ref hn)] dX3_write_133 (by decide) rfl ?_
              refine ax_iinc (v := (nI (k + 1) - 1) + (-1)) hC 1 [(5, .int ((nI (k + 1) - 1) + (-1))), (4, .int (fm i.toNatClampNeg)), (3, .int (nI t)), (2, .int nm), (1, .int la), (0, .ref hn)] dX3_write_135 rfl rfl (by decide) rfl ?_
              refine ax_goto (tgt := 82) hC dX3_write_138 (by decide) ?_
              refine ax_locals [0, 1, 2, 3, 4, 5] (L' := [(5, .int ((nI (k + 1) - 1) + (-1))), (4, .int (fm i.toNatClampNeg)), (3, .int (nI t)), (2, .int nm), (1, .int la), (0, .ref hn)]) rfl ?_
              rw [show (nI (k + 1) - 1 + (-1)) = nI k - 1 by rw [nI_pred, pred_neg]]
              exact ih h2007 _ ht (by omega) (fun q hq => (f2009 q (by omega)).trans (hfr q hq)) ⟨_, pr, fm, sp, seen, x2010, e2008, x2011, x2012, x2013, x2014, hnd, hlt, hpr, hbit⟩
  have LP1 : ∀ (n t : Nat) (i : Int32), t + n = 3600 → Gx p l e rmX3_write s m args below meth c D vwCl B lo 6 (MQ below (KQv D vwCl B lo (ty6 z) (fun hi' h' => hi' = hi ∧ (∀ q, (q < hn ∨ hn + 6 ≤ q) → h' q = h q) ∧ ∃ t, HinL z h' hn cm (nI (t + 1)) Ls ∧ t ≤ 3600)) args s 0 0 (fun q => lo ≤ q)) hi h 0 0 [(5, .int (nI t)), (4, .int i), (3, .int (nI t)), (2, .int nm), (1, .int la), (0, .ref hn)] 8 [] := by
    intro n
    induction n with
    | zero =>
      intro t i htn
      refine ax_iload hC 0 dX3_write_8 rfl ?_
      refine ax_aload_n hC 5 dX3_write_10 rfl rfl ?_
      refine ax_getf (v := .ref (hn + 3)) hC q0 iX3 rfl 4 (by decide) (by decide +kernel) rfl rfl dX3_write_11 ?_
      refine ax_alen (v := 3600) hC q3 1 rfl rfl dX3_write_14 ?_
      refine ax_icmp_ge (tgt := 51) hC dX3_write_15 (by decide) (fun c3001 => ?_) (fun c3001 => ?_)
      · refine ax_aload_n hC 5 dX3_write_51 rfl rfl ?_
        refine ax_iload_n hC 2 dX3_write_52 rfl rfl ?_
        refine ax_iconst (v := 1) hC dX3_write_53 (by decide) ?_
        refine ax_iadd hC dX3_write_54 ?_
        refine ax_eqi (y := nI (t + 1)) (nI_1 t) ?_
        refine ax_putf (v := .int (nI (t + 1))) (ty := .int) hC tyX3 q0 iX3 tyX3_ok nmX3 rfl 1 (by decide) (by decide +kernel) rfl rfl (by decide +kernel) (rfl) rfl (Nat.le_of_ble_eq_true rfl) dX3_write_55 (fun h3002 e3003 f3004 => ?_)
        have e3003 : h3002 hn = some (.inr (5, [.ref (hn + 1), .int (nI (t + 1)), .ref cm, .ref (hn + 2), .ref (hn + 3), .ref (hn + 4), .ref (hn + 5), .int (nI Ls.length)])) := e3003
        have x3005 : h3002 (hn + 1) = some (.inl (z 1, 3601, .inl (tx))) := (f3004 _ (by omega)).trans q1
        have x3006 : h3002 (hn + 2) = some (.inl (z 2, 60, .inr (.inl (seen)))) := (f3004 _ (by omega)).trans q2
        have x3007 : h3002 (hn + 3) = some (.inl (z 1, 3600, .inl (pr))) := (f3004 _ (by omega)).trans q3
        have x3008 : h3002 (hn + 4) = some (.inl (z 1, 3600, .inl (fm))) := (f3004 _ (by omega)).trans q4
        have x3009 : h3002 (hn + 5) = some (.inl (z 1, 3600, .inl (sp))) := (f3004 _ (by omega)).trans q5
        refine ax_iload_n hC 2 dX3_write_58 rfl rfl ?_
        refine ax_aload_n hC 5 dX3_write_59 rfl rfl ?_
        refine ax_getf (v := .ref (hn + 1)) hC e3003 iX3 rfl 0 (by decide) (by decide +kernel) rfl rfl dX3_write_60 ?_
        refine ax_alen (v := 3601) hC x3005 1 rfl rfl dX3_write_63 ?_
        refine ax_icmp_ge (tgt := 74) hC dX3_write_64 (by decide) (fun c3010 => ?_) (fun c3010 => ?_)
        · exact absurd c3010 (by rw [L_leN (k := 3601) (by decide) (by omega)]; omega)
        · refine ax_aload_n hC 5 dX3_write_67 rfl rfl ?_
          refine ax_getf (v := .ref (hn + 1)) hC e3003 iX3 rfl 0 (by decide) (by decide +kernel) rfl rfl dX3_write_68 ?_
          refine ax_iload_n hC 2 dX3_write_71 rfl rfl ?_
          refine ax_iload_n hC 3 dX3_write_72 rfl rfl ?_
          have b3011 : vp_in (nI t) 3601 := vp_in_nI (by omega) (by omega)
          refine ax_iast hC x3005 1 rfl b3011 dX3_write_73 (fun h3012 e3013 f3014 => ?_)
          rw [nI_clamp (by omega)] at e3013
          have x3015 : h3012 (hn + 2) = some (.inl (z 2, 60, .inr (.inl (seen)))) := (f3014 _ (by omega)).trans x3006
          have x3016 : h3012 (hn + 3) = some (.inl (z 1, 3600, .inl (pr))) := (f3014 _ (by omega)).trans x3007
          have x3017 : h3012 (hn + 4) = some (.inl (z 1, 3600, .inl (fm))) := (f3014 _ (by omega)).trans x3008
          have x3018 : h3012 (hn + 5) = some (.inl (z 1, 3600, .inl (sp))) := (f3014 _ (by omega)).trans x3009
          have x3019 : h3012 hn = some (.inr (5, [.ref (hn + 1), .int (nI (t + 1)), .ref cm, .ref (hn + 2), .ref (hn + 3), .ref (hn + 4), .ref (hn + 5), .int (nI Ls.length)])) := (f3014 _ (by omega)).trans e3003
          refine ax_iload_n hC 4 dX3_write_74 rfl rfl ?_
          refine ax_istore hC [(4, .int la), (5, .int (nI t)), (3, .int (nI t)), (2, .int nm), (1, .int la), (0, .ref hn)] dX3_write_75 (by decide) rfl ?_
          refine ax_iload_n hC 2 dX3_write_77 rfl rfl ?_
          refine ax_iconst (v := 1) hC dX3_write_78 (by decide) ?_
          refine ax_isub hC dX3_write_79 ?_
          refine ax_istore hC [(5, .int ((nI t) - 1)), (4, .int la), (3, .int (nI t)), (2, .int nm), (1, .int la), (0, .ref hn)] dX3_write_80 (by decide) rfl ?_
          refine ax_locals [0, 1, 2, 3, 4, 5] (L' := [(5, .int ((nI t) - 1)), (4, .int la), (3, .int (nI t)), (2, .int nm), (1, .int la), (0, .ref hn)]) rfl ?_
          exact LP2 t t h3012 _ (by omega) (by omega) (fun q hq => ((f3014 q (by omega)).trans (f3004 q (by omega)))) ⟨_, pr, fm, sp, seen, x3019, e3013, x3015, x3016, x3017, x3018, hnd, hlt, hpr, hbit⟩
      · exact absurd (by rw [L_leN (k := 3600) (by decide) (by omega)]; omega) c3001
    | succ n ih =>
      intro t i htn
      refine ax_iload hC 0 dX3_write_8 rfl ?_
      refine ax_aload_n hC 5 dX3_write_10 rfl rfl ?_
      refine ax_getf (v := .ref (hn + 3)) hC q0 iX3 rfl 4 (by decide) (by decide +kernel) rfl rfl dX3_write_11 ?_
      refine ax_alen (v := 3600) hC q3 1 rfl rfl dX3_write_14 ?_
      refine ax_icmp_ge (tgt := 51) hC dX3_write_15 (by decide) (fun c4001 => ?_) (fun c4001 => ?_)
      · exact absurd c4001 (by rw [L_leN (k := 3600) (by decide) (by omega)]; omega)
      · refine ax_iload hC 1 dX3_write_18 rfl ?_
        refine ax_if_le (tgt := 51) hC dX3_write_20 (by decide) (fun c4002 => ?_) (fun c4002 => ?_)
        · refine ax_aload_n hC 5 dX3_write_51 rfl rfl ?_
          refine ax_iload_n hC 2 dX3_write_52 rfl rfl ?_
          refine ax_iconst (v := 1) hC dX3_write_53 (by decide) ?_
          refine ax_iadd hC dX3_write_54 ?_
          refine ax_eqi (y := nI (t + 1)) (nI_1 t) ?_
          refine ax_putf (v := .int (nI (t + 1))) (ty := .int) hC tyX3 q0 iX3 tyX3_ok nmX3 rfl 1 (by decide) (by decide +kernel) rfl rfl (by decide +kernel) (rfl) rfl (Nat.le_of_ble_eq_true rfl) dX3_write_55 (fun h4003 e4004 f4005 => ?_)
          have e4004 : h4003 hn = some (.inr (5, [.ref (hn + 1), .int (nI (t + 1)), .ref cm, .ref (hn + 2), .ref (hn + 3), .ref (hn + 4), .ref (hn + 5), .int (nI Ls.length)])) := e4004
          have x4006 : h4003 (hn + 1) = some (.inl (z 1, 3601, .inl (tx))) := (f4005 _ (by omega)).trans q1
          have x4007 : h4003 (hn + 2) = some (.inl (z 2, 60, .inr (.inl (seen)))) := (f4005 _ (by omega)).trans q2
          have x4008 : h4003 (hn + 3) = some (.inl (z 1, 3600, .inl (pr))) := (f4005 _ (by omega)).trans q3
          have x4009 : h4003 (hn + 4) = some (.inl (z 1, 3600, .inl (fm))) := (f4005 _ (by omega)).trans q4
          have x4010 : h4003 (hn + 5) = some (.inl (z 1, 3600, .inl (sp))) := (f4005 _ (by omega)).trans q5
          refine ax_iload_n hC 2 dX3_write_58 rfl rfl ?_
          refine ax_aload_n hC 5 dX3_write_59 rfl rfl ?_
          refine ax_getf (v := .ref (hn + 1)) hC e4004 iX3 rfl 0 (by decide) (by decide +kernel) rfl rfl dX3_write_60 ?_
          refine ax_alen (v := 3601) hC x4006 1 rfl rfl dX3_write_63 ?_
          refine ax_icmp_ge (tgt := 74) hC dX3_write_64 (by decide) (fun c4011 => ?_) (fun c4011 => ?_)
          · exact absurd c4011 (by rw [L_leN (k := 3601) (by decide) (by omega)]; omega)
          · refine ax_aload_n hC 5 dX3_write_67 rfl rfl ?_
            refine ax_getf (v := .ref (hn + 1)) hC e4004 iX3 rfl 0 (by decide) (by decide +kernel) rfl rfl dX3_write_68 ?_
            refine ax_iload_n hC 2 dX3_write_71 rfl rfl ?_
            refine ax_iload_n hC 3 dX3_write_72 rfl rfl ?_
            have b4012 : vp_in (nI t) 3601 := vp_in_nI (by omega) (by omega)
            refine ax_iast hC x4006 1 rfl b4012 dX3_write_73 (fun h4013 e4014 f4015 => ?_)
            rw [nI_clamp (by omega)] at e4014
            have x4016 : h4013 (hn + 2) = some (.inl (z 2, 60, .inr (.inl (seen)))) := (f4015 _ (by omega)).trans x4007
            have x4017 : h4013 (hn + 3) = some (.inl (z 1, 3600, .inl (pr))) := (f4015 _ (by omega)).trans x4008
            have x4018 : h4013 (hn + 4) = some (.inl (z 1, 3600, .inl (fm))) := (f4015 _ (by omega)).trans x4009
            have x4019 : h4013 (hn + 5) = some (.inl (z 1, 3600, .inl (sp))) := (f4015 _ (by omega)).trans x4010
            have x4020 : h4013 hn = some (.inr (5, [.ref (hn + 1), .int (nI (t + 1)), .ref cm, .ref (hn + 2), .ref (hn + 3), .ref (hn + 4), .ref (hn + 5), .int (nI Ls.length)])) := (f4015 _ (by omega)).trans e4004
            refine ax_iload_n hC 4 dX3_write_74 rfl rfl ?_
            refine ax_istore hC [(4, .int la), (5, .int (nI t)), (3, .int (nI t)), (2, .int nm), (1, .int la), (0, .ref hn)] dX3_write_75 (by decide) rfl ?_
            refine ax_iload_n hC 2 dX3_write_77 rfl rfl ?_
            refine ax_iconst (v := 1) hC dX3_write_78 (by decide) ?_
            refine ax_isub hC dX3_write_79 ?_
            refine ax_istore hC [(5, .int ((nI t) - 1)), (4, .int la), (3, .int (nI t)), (2, .int nm), (1, .int la), (0, .ref hn)] dX3_write_80 (by decide) rfl ?_
            refine ax_locals [0, 1, 2, 3, 4, 5] (L' := [(5, .int ((nI t) - 1)), (4, .int la), (3, .int (nI t)), (2, .int nm), (1, .int la), (0, .ref hn)]) rfl ?_
            exact LP2 t t h4013 _ (by omega) (by omega) (fun q hq => ((f4015 q (by omega)).trans (f4005 q (by omega)))) ⟨_, pr, fm, sp, seen, x4020, e4014, x4016, x4017, x4018, x4019, hnd, hlt, hpr, hbit⟩
        · refine ax_iload hC 1 dX3_write_23 rfl ?_
          refine ax_aload_n hC 5 dX3_write_25 rfl rfl ?_
          refine ax_getf (v := .ref (hn + 4)) hC q0 iX3 rfl 5 (by decide) (by decide +kernel) rfl rfl dX3_write_26 ?_
          refine ax_alen (v := 3600) hC q4 1 rfl rfl dX3_write_29 ?_
          refine ax_icmp_ge (tgt := 51) hC dX3_write_30 (by decide) (fun c4021 => ?_) (fun c4021 => ?_)
          · refine ax_aload_n hC 5 dX3_write_51 rfl rfl ?_
            refine ax_iload_n hC 2 dX3_write_52 rfl rfl ?_
            refine ax_iconst (v := 1) hC dX3_write_53 (by decide) ?_
            refine ax_iadd hC dX3_write_54 ?_
            refine ax_eqi (y := nI (t + 1)) (nI_1 t) ?_
            refine ax_putf (v := .int (nI (t + 1))) (ty := .int) hC tyX3 q0 iX3 tyX3_ok nmX3 rfl 1 (by decide) (by decide +kernel) rfl rfl (by decide +kernel) (rfl) rfl (Nat.le_of_ble_eq_true rfl) dX3_write_55 (fun h4022 e4023 f4024 => ?_)
            have e4023 : h4022 hn = some (.inr (5, [.ref (hn + 1), .int (nI (t + 1)), .ref cm, .ref (hn + 2), .ref (hn + 3), .ref (hn + 4), .ref (hn + 5), .int (nI Ls.length)])) := e4023
            have x4025 : h4022 (hn + 1) = some (.inl (z 1, 3601, .inl (tx))) := (f4024 _ (by omega)).trans q1
            have x4026 : h4022 (hn + 2) = some (.inl (z 2, 60, .inr (.inl (seen)))) := (f4024 _ (by omega)).trans q2
            have x4027 : h4022 (hn + 3) = some (.inl (z 1, 3600, .inl (pr))) := (f4024 _ (by omega)).trans q3
            have x4028 : h4022 (hn + 4) = some (.inl (z 1, 3600, .inl (fm))) := (f4024 _ (by omega)).trans q4
            have x4029 : h4022 (hn + 5) = some (.inl (z 1, 3600, .inl (sp))) := (f4024 _ (by omega)).trans q5
            refine ax_iload_n hC 2 dX3_write_58 rfl rfl ?_
            refine ax_aload_n hC 5 dX3_write_59 rfl rfl ?_
            refine ax_getf (v := .ref (hn + 1)) hC e4023 iX3 rfl 0 (by decide) (by decide +kernel) rfl rfl dX3_write_60 ?_
            refine ax_alen (v := 3601) hC x4025 1 rfl rfl dX3_write_63 ?_
            refine ax_icmp_ge (tgt := 74) hC dX3_write_64 (by decide) (fun c4030 => ?_) (fun c4030 => ?_)
            · exact absurd c4030 (by rw [L_leN (k := 3601) (by decide) (by omega)]; omega)
            · refine ax_aload_n hC 5 dX3_write_67 rfl rfl ?_
              refine ax_getf (v := .ref (hn + 1)) hC e4023 iX3 rfl 0 (by decide) (by decide +kernel) rfl rfl dX3_write_68 ?_
              refine ax_iload_n hC 2 dX3_write_71 rfl rfl ?_
              refine ax_iload_n hC 3 dX3_write_72 rfl rfl ?_
              have b4031 : vp_in (nI t) 3601 := vp_in_nI (by omega) (by omega)
              refine ax_iast hC x4025 1 rfl b4031 dX3_write_73 (fun h4032 e4033 f4034 => ?_)
              rw [nI_clamp (by omega)] at e4033
              have x4035 : h4032 (hn + 2) = some (.inl (z 2, 60, .inr (.inl (seen)))) := (f4034 _ (by omega)).trans x4026
              have x4036 : h4032 (hn + 3) = some (.inl (z 1, 3600, .inl (pr))) := (f4034 _ (by omega)).trans x4027
              have x4037 : h4032 (hn + 4) = some (.inl (z 1, 3600, .inl (fm))) := (f4034 _ (by omega)).trans x4028
              have x4038 : h4032 (hn + 5) = some (.inl (z 1, 3600, .inl (sp))) := (f4034 _ (by omega)).trans x4029
              have x4039 : h4032 hn = some (.inr (5, [.ref (hn + 1), .int (nI (t + 1)), .ref cm, .ref (hn + 2), .ref (hn + 3), .ref (hn + 4), .ref (hn + 5), .int (nI Ls.length)])) := (f4034 _ (by omega)).trans e4023
              refine ax_iload_n hC 4 dX3_write_74 rfl rfl ?_
              refine ax_istore hC [(4, .int la), (5, .int (nI t)), (3, .int (nI t)), (2, .int nm), (1, .int la), (0, .ref hn)] dX3_write_75 (by decide) rfl ?_
              refine ax_iload_n hC 2 dX3_write_77 rfl rfl ?_
              refine ax_iconst (v := 1) hC dX3_write_78 (by decide) ?_
              refine ax_isub hC dX3_write_79 ?_
              refine ax_istore hC [(5, .int ((nI t) - 1)), (4, .int la), (3, .int (nI t)), (2, .int nm), (1, .int la), (0, .ref hn)] dX3_write_80 (by decide) rfl ?_
              refine ax_locals [0, 1, 2, 3, 4, 5] (L' := [(5, .int ((nI t) - 1)), (4, .int la), (3, .int (nI t)), (2, .int nm), (1, .int la), (0, .ref hn)]) rfl ?_
              exact LP2 t t h4032 _ (by omega) (by omega) (fun q hq => ((f4034 q (by omega)).trans (f4024 q (by omega)))) ⟨_, pr, fm, sp, seen, x4039, e4033, x4035, x4036, x4037, x4038, hnd, hlt, hpr, hbit⟩
          · refine ax_aload_n hC 5 dX3_write_33 rfl rfl ?_
            refine ax_getf (v := .ref (hn + 4)) hC q0 iX3 rfl 5 (by decide) (by decide +kernel) rfl rfl dX3_write_34 ?_
            refine ax_iload hC 1 dX3_write_37 rfl ?_
            have b4040 : vp_in i 3600 := vin_pa c4002 c4021 (by first | decide | omega)
            refine ax_iald hC q4 1 rfl b4040 dX3_write_39 ?_
            refine ax_istore hC [(4, .int (fm i.toNatClampNeg)), (5, .int (nI t)), (3, .int (nI t)), (2, .int nm), (1, .int la), (0, .ref hn)] dX3_write_40 (by decide) rfl ?_
            refine ax_iinc (v := (nI t) + 1) hC 2 [(3, .int ((nI t) + 1)), (4, .int (fm i.toNatClampNeg)), (5, .int (nI t)), (2, .int nm), (1, .int la), (0, .ref hn)] dX3_write_42 rfl rfl (by decide) rfl ?_
            refine ax_iinc (v := (nI t) + 1) hC 2 [(5, .int ((nI t) + 1)), (3, .int ((nI t) + 1)), (4, .int (fm i.toNatClampNeg)), (2, .int nm), (1, .int la), (0, .ref hn)] dX3_write_45 rfl rfl (by decide) rfl ?_
            refine ax_goto (tgt := 8) hC dX3_write_48 (by decide) ?_
            refine ax_locals [0, 2, 1, 3, 4, 5] (L' := [(5, .int ((nI t) + 1)), (4, .int (fm i.toNatClampNeg)), (3, .int ((nI t) + 1)), (2, .int nm), (1, .int la), (0, .ref hn)]) rfl ?_
            rw [show (nI t + 1) = nI (t + 1) from nI_1 t]
            exact ih (t + 1) _ (by omega)
  refine ax_iconst (v := 0) hC dX3_write_0 (by decide) ?_
  refine ax_istore_n hC [(3, .int 0), (0, .ref hn), (1, .int la), (2, .int nm)] dX3_write_1 rfl (by decide) rfl ?_
  refine ax_iload_n hC 2 dX3_write_2 rfl rfl ?_
  refine ax_istore hC [(4, .int la), (3, .int 0), (0, .ref hn), (1, .int la), (2, .int nm)] dX3_write_3 (by decide) rfl ?_
  refine ax_iconst (v := 0) hC dX3_write_5 (by decide) ?_
  refine ax_istore hC [(5, .int 0), (4, .int la), (3, .int 0), (0, .ref hn), (1, .int la), (2, .int nm)] dX3_write_6 (by decide) rfl ?_
  refine ax_locals [0, 1, 2, 5, 4, 3] (L' := [(5, .int 0), (4, .int la), (3, .int 0), (2, .int nm), (1, .int la), (0, .ref hn)]) rfl ?_
  exact LP1 3600 0 _ (by omega)
