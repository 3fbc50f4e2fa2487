abbrev rmX4_taking : Room := { frames := 3, cells := 0, slots := 0, locals := 89 }
set_option maxRecDepth 100000 in
set_option maxHeartbeats 4000000 in
theorem c_X4_taking_0 (l : Launch) (D : va_G) (z : Nat → ClassId) (B : Heap) (lo hi : Nat) (h : Nat → Option va_E) (mt cm aF aG : Nat) (nr : Int32) (TF TG : PT) (W : Nat → Nat → Prop) (a b l0 l1 : Nat) (ndF ndG : Int32) (hX : MtX z h mt cm aF aG nr TF TG W a b l0 l1) (hF : PrC z h aF ndF TF) (hG : PrC z h aG ndG TG) (hwF : wfP TF) (hwG : wfP TG) (hM : MeetW TF TG W) (hok : PlaceOK TF TG W a b l0 l1) (hmF : mt + 8 ≤ aF) (hmG : mt + 8 ≤ aG) (hS : CmpS z h cm) (hcm : cm + 3 ≤ mt) : Met l yX4_taking wsX4_taking rmX4_taking (KP D vwCl B lo hi h (ty6 z) [.ref mt, .int 0]) (KQi D vwCl B lo (ty6 z) (fun r hi' h' => hi' = hi ∧ (∀ q, (q < cm ∨ (cm + 3 ≤ q ∧ q < mt) ∨ mt + 8 ≤ q) → h' q = h q) ∧ CmpS z h' cm ∧ MtX z h' mt cm aF aG nr TF TG W a b l0 l1 ∧ r = if l1 = 0 then 0 else 1)) 0 0 (fun q => lo ≤ q) := by
  obtain ⟨fo, most, over, pl, mv, sl, ft, tk, ats, lns, q0, q1, q2, q3, q4, q5, q6, q7, hfo, hov, hk0, hk1, hta, htb, hz0, hz1, hpl, hft⟩ := id hX
  have hwF1 := hwF.1
  have hwG1 := hwG.1
  obtain ⟨ha, hb, hl0, hl1, hm0, hm1⟩ := hok.bnd hwF hwG hM
  obtain ⟨_, _, _, hSo, -⟩ := id hS
  refine ax_met (by decide) rfl (Nat.le_of_ble_eq_true rfl) (L0 := [(0, .ref mt), (1, .int 0)]) rfl ?_
  intro p e s m args below meth c hC hr hlocks hnm hargs
  have iX4 : ∀ w ∈ u_ws RX4 TX4 15, w ∈ wsX4_taking := by decide +kernel
  refine ax_aload_n hC 0 dX4_taking_0 rfl rfl ?_
  refine ax_getf (v := .ref (mt + 5)) hC q0 iX4 rfl 10 (by decide) (by decide +kernel) rfl rfl dX4_taking_1 ?_
  refine ax_iload_n hC 1 dX4_taking_4 rfl rfl ?_
  refine ax_iconst (v := 1) hC dX4_taking_5 (by decide) ?_
  refine ax_iand hC dX4_taking_6 ?_
  refine ax_eqi (y := 0) (by decide) ?_
  have b1 : vp_in 0 2 := vp_in_iff.mpr (by decide)
  refine ax_aald hC q5 5 rfl b1 dX4_taking_7 ?_
  refine ax_eqq (y := some aF) (hk0) ?_
  refine ax_astore_n hC [(2, .ref aF), (0, .ref mt), (1, .int 0)] dX4_taking_8 rfl (by decide) rfl ?_
  refine ax_aload_n hC 1 dX4_taking_9 rfl rfl ?_
  refine ax_getf (v := .ref (mt + 5)) hC q0 iX4 rfl 10 (by decide) (by decide +kernel) rfl rfl dX4_taking_10 ?_
  refine ax_iconst (v := 1) hC dX4_taking_13 (by decide) ?_
  refine ax_iload_n hC 2 dX4_taking_14 rfl rfl ?_
  refine ax_isub hC dX4_taking_15 ?_
  refine ax_eqi (y := 1) (by decide) ?_
  refine ax_iconst (v := 1) hC dX4_taking_16 (by decide) ?_
  refine ax_iand hC dX4_taking_17 ?_
  refine ax_eqi (y := 1) (by decide) ?_
  have b2 : vp_in 1 2 := vp_in_iff.mpr (by decide)
  refine ax_aald hC q5 5 rfl b2 dX4_taking_18 ?_
  refine ax_eqq (y := some aG) (hk1) ?_
  refine ax_astore_n hC [(3, .ref aG), (2, .ref aF), (0, .ref mt), (1, .int 0)] dX4_taking_19 rfl (by decide) rfl ?_
  refine ax_aload_n hC 2 dX4_taking_20 rfl rfl ?_
  refine ax_getf (v := .ref (mt + 7)) hC q0 iX4 rfl 12 (by decide) (by decide +kernel) rfl rfl dX4_taking_21 ?_
  refine ax_iconst (v := 1) hC dX4_taking_24 (by decide) ?_
  refine ax_iload_n hC 3 dX4_taking_25 rfl rfl ?_
  refine ax_isub hC dX4_taking_26 ?_
  refine ax_eqi (y := 1) (by decide) ?_
  refine ax_iconst (v := 1) hC dX4_taking_27 (by decide) ?_
  refine ax_iand hC dX4_taking_28 ?_
  refine ax_eqi (y := 1) (by decide) ?_
  have b3 : vp_in 1 2 := vp_in_iff.mpr (by decide)
  refine ax_iald hC q7 1 rfl b3 dX4_taking_29 ?_
  refine ax_eqi (y := nI l1) (hz1) ?_
  refine ax_bipush (v := 127) hC dX4_taking_30 (by decide) ?_
  refine ax_iand hC dX4_taking_32 ?_
  refine ax_eqi (y := nI (l1 % 128)) (i32_and l1 7) ?_
  refine ax_istore hC [(4, .int (nI (l1 % 128))), (3, .ref aG), (2, .ref aF), (0, .ref mt), (1, .int 0)] dX4_taking_33 (by decide) rfl ?_
  refine ax_aload_n hC 2 dX4_taking_35 rfl rfl ?_
  refine ax_ifnull hC dX4_taking_36 ?_
  refine ax_aload_n hC 1 dX4_taking_39 rfl rfl ?_
  refine ax_ifnull hC dX4_taking_40 ?_
  refine ax_iload hC 0 dX4_taking_43 rfl ?_
  refine ax_if_ne (tgt := 50) hC dX4_taking_45 (by decide) (fun c4 => ?_) (fun c4 => ?_)
  · obtain ⟨htake, -⟩ := (hok.take0 hwF hwG hM (fun q9 => c4 (by rw [q9]; rfl)))
    have hj3 := (nlab_eq hwF ha).2
    rcases htake with ⟨hK2, u, hu, hxu, hSS, hFit⟩ | ⟨hK4, j, hj, hxj⟩
    · refine ax_aload_n hC 3 dX4_taking_50 rfl rfl ?_
      refine ax_getf (v := .ref (mt + 6)) hC q0 iX4 rfl 11 (by decide) (by decide +kernel) rfl rfl dX4_taking_51 ?_
      refine ax_iload_n hC 4 dX4_taking_54 rfl rfl ?_
      refine ax_iconst (v := 1) hC dX4_taking_55 (by decide) ?_
      refine ax_iand hC dX4_taking_56 ?_
      refine ax_eqi (y := 0) (by decide) ?_
      have b5 : vp_in 0 2 := vp_in_iff.mpr (by decide)
      refine ax_iald hC q6 1 rfl b5 dX4_taking_57 ?_
      refine ax_eqi (y := nI a) (hta) ?_
      refine ax_istore hC [(5, .int (nI a)), (4, .int (nI (l1 % 128))), (3, .ref aG), (2, .ref aF), (0, .ref mt), (1, .int 0)] dX4_taking_58 (by decide) rfl ?_
      refine ax_aload_n hC 3 dX4_taking_60 rfl rfl ?_
      refine ax_iload hC 0 dX4_taking_61 rfl ?_
      refine ax_callVp (st := []) hC [.int (nI a)] hF.1 rfl (c_X7_kindOf l D z B lo _ h aF _ TF (nI a) hF hwF.1) (cwV 1 hC.1.2.2.2.2 gX4_taking_X7_kindOf rfl rfl rfl (by decide +kernel) ⟨Nat.le_of_ble_eq_true rfl, Nat.le_of_ble_eq_true rfl⟩) rfl rfl (Nat.le_of_ble_eq_true rfl) dX4_taking_63 ⟨Nat.le_of_ble_eq_true rfl, Nat.le_of_ble_eq_true rfl⟩ (fun r6 er7 => ?_)
      subst er7
      refine ax_eqi (y := pK TF a) (rd_nat ha (by omega)) ?_
      refine ax_istore hC [(6, .int (pK TF a)), (5, .int (nI a)), (4, .int (nI (l1 % 128))), (3, .ref aG), (2, .ref aF), (0, .ref mt), (1, .int 0)] dX4_taking_66 (by decide) rfl ?_
      refine ax_iload hC 0 dX4_taking_68 rfl ?_
      refine ax_iconst (v := 4) hC dX4_taking_70 (by decide) ?_
      refine ax_icmp_ne (tgt := 115) hC dX4_taking_71 (by decide) (fun c8 => ?_) (fun c8 => ?_)
      · refine ax_iload hC 0 dX4_taking_115 rfl ?_
        refine ax_iconst (v := 2) hC dX4_taking_117 (by decide) ?_
        refine ax_icmp_eq (tgt := 123) hC dX4_taking_118 (by decide) (fun c9 => ?_) (fun c9 => ?_)
        · refine ax_iload hC 2 dX4_taking_123 rfl ?_
          refine ax_bipush (v := 60) hC dX4_taking_125 (by decide) ?_
          refine ax_icmp_gt (tgt := 147) hC dX4_taking_127 (by decide) (fun c10 => ?_) (fun c10 => ?_)
          · exact absurd c10 (by rw [L_ltN (k := 60) (by decide) (by omega)]; omega)
          · refine ax_aload_n hC 3 dX4_taking_130 rfl rfl ?_
            refine ax_iload hC 2 dX4_taking_131 rfl ?_
            refine ax_iconst (v := 1) hC dX4_taking_133 (by decide) ?_
            refine ax_isub hC dX4_taking_134 ?_
            refine ax_eqi (y := nI u) (by rw [hxu, Nat.add_comm]; exact nI_pred u) ?_
            refine ax_callVp (st := []) hC [.int (nI u)] hG.1 rfl (c_X7_sortOf l D z B lo _ h aG _ TG (nI u) hG hwG.1) (cwV 1 hC.1.2.2.2.2 gX4_taking_X7_sortOf rfl rfl rfl (by decide +kernel) ⟨Nat.le_of_ble_eq_true rfl, Nat.le_of_ble_eq_true rfl⟩) rfl rfl (Nat.le_of_ble_eq_true rfl) dX4_taking_135 ⟨Nat.le_of_ble_eq_true rfl, Nat.le_of_ble_eq_true rfl⟩ (fun r11 er12 => ?_)
            subst er12
            refine ax_eqi (y := pS TG u) (rd_nat hu (by omega)) ?_
            refine ax_aload_n hC 4 dX4_taking_138 rfl rfl ?_
            refine ax_iload hC 1 dX4_taking_139 rfl ?_
            refine ax_callVp (st := [.int (pS TG u)]) hC [.int (nI a)] hF.1 rfl (c_X7_sortOf l D z B lo _ h aF _ TF (nI a) hF hwF.1) (cwV 1 hC.1.2.2.2.2 gX4_taking_X7_sortOf rfl rfl rfl (by decide +kernel) ⟨Nat.le_of_ble_eq_true rfl, Nat.le_of_ble_eq_true rfl⟩) rfl rfl (Nat.le_of_ble_eq_true rfl) dX4_taking_141 ⟨Nat.le_of_ble_eq_true rfl, Nat.le_of_ble_eq_true rfl⟩ (fun r13 er14 => ?_)
            subst er14
            refine ax_eqi (y := pS TF a) (rd_nat ha (by omega)) ?_
            refine ax_icmp_eq (tgt := 149) hC dX4_taking_144 (by decide) (fun c15 => ?_) (fun c15 => ?_)
            · refine ax_aload_n hC 4 dX4_taking_149 rfl rfl ?_
              refine ax_iload hC 1 dX4_taking_150 rfl ?_
              refine ax_callVp (st := []) hC [.int (nI a)] hF.1 rfl (c_X7_sortOf l D z B lo _ h aF _ TF (nI a) hF hwF.1) (cwV 1 hC.1.2.2.2.2 gX4_taking_X7_sortOf rfl rfl rfl (by decide +kernel) ⟨Nat.le_of_ble_eq_true rfl, Nat.le_of_ble_eq_true rfl⟩) rfl rfl (Nat.le_of_ble_eq_true rfl) dX4_taking_152 ⟨Nat.le_of_ble_eq_true rfl, Nat.le_of_ble_eq_true rfl⟩ (fun r16 er17 => ?_)
              subst er17
              refine ax_eqi (y := pS TF a) (rd_nat ha (by omega)) ?_
              refine ax_bipush (v := 40) hC dX4_taking_155 (by decide) ?_
              refine ax_icmp_eq (tgt := 162) hC dX4_taking_157 (by decide) (fun c18 => ?_) (fun c18 => ?_)
              · refine ax_iload_n hC 6 dX4_taking_162 rfl rfl ?_
                refine ax_iconst (v := 1) hC dX4_taking_163 (by decide) ?_
                refine ax_iand hC dX4_taking_164 ?_
                refine ax_eqi (y := 0) (by decide) ?_
                refine ax_bipush (v := 60) hC dX4_taking_165 (by decide) ?_
                refine ax_imul hC dX4_taking_167 ?_
                refine ax_eqi (y := 0) (by decide) ?_
                refine ax_iload hC 2 dX4_taking_168 rfl ?_
                refine ax_iadd hC dX4_taking_170 ?_
                refine ax_eqi (y := nI (0 + u + 1)) (by rw [hxu]; exact (nI_add 0 (1 + u)).trans (congrArg nI (by omega))) ?_
                refine ax_iconst (v := 1) hC dX4_taking_171 (by decide) ?_
                refine ax_isub hC dX4_taking_172 ?_
                refine ax_eqi (y := nI (0 + u)) (nI_pred _) ?_
                refine ax_bipush (v := 60) hC dX4_taking_173 (by decide) ?_
                refine ax_imul hC dX4_taking_175 ?_
                refine ax_iload hC 1 dX4_taking_176 rfl ?_
                refine ax_iadd hC dX4_taking_178 ?_
                refine ax_eqi (y := nI (60 * (0 + u) + a)) (row_eq _ _) ?_
                refine ax_istore hC [(7, .int (nI (60 * (0 + u) + a))), (6, .int (pK TF a)), (5, .int (nI a)), (4, .int (nI (l1 % 128))), (3, .ref aG), (2, .ref aF), (0, .ref mt), (1, .int 0)] dX4_taking_179 (by decide) rfl ?_
                refine ax_iload hC 0 dX4_taking_181 rfl ?_
                refine ax_if_lt (tgt := 196) hC dX4_taking_183 (by decide) (fun c19 => ?_) (fun c19 => ?_)
                · exact absurd c19 (nI_pos (by omega))
                · refine ax_iload hC 0 dX4_taking_186 rfl ?_
                  refine ax_aload_n hC 6 dX4_taking_188 rfl rfl ?_
                  refine ax_getf (v := .ref (mt + 4)) hC q0 iX4 rfl 9 (by decide) (by decide +kernel) rfl rfl dX4_taking_189 ?_
                  refine ax_alen (v := 7200) hC q4 0 rfl rfl dX4_taking_192 ?_
                  refine ax_icmp_lt (tgt := 198) hC dX4_taking_193 (by decide) (fun c20 => ?_) (fun c20 => ?_)
                  · refine ax_aload_n hC 6 dX4_taking_198 rfl rfl ?_
                    refine ax_getf (v := .ref (mt + 4)) hC q0 iX4 rfl 9 (by decide) (by decide +kernel) rfl rfl dX4_taking_199 ?_
                    refine ax_iload hC 0 dX4_taking_202 rfl ?_
                    have b21 : vp_in (nI (60 * (0 + u) + a)) 7200 := vp_in_nI (by omega) (by omega)
                    refine ax_bald hC q4 0 rfl b21 dX4_taking_204 ?_
                    refine ax_eqi (y := ft ((60 * (0 + u) + a))) (by rw [nI_clamp (by omega)]) ?_
                    refine ax_if_ne (tgt := 252) hC dX4_taking_205 (by decide) (fun c22 => ?_) (fun c22 => ?_)
                    · refine ax_aload_n hC 6 dX4_taking_252 rfl rfl ?_
                      refine ax_getf (v := .ref (mt + 4)) hC q0 iX4 rfl 9 (by decide) (by decide +kernel) rfl rfl dX4_taking_253 ?_
                      refine ax_iload hC 0 dX4_taking_256 rfl ?_
                      have b23 : vp_in (nI (60 * (0 + u) + a)) 7200 := vp_in_nI (by omega) (by omega)
                      refine ax_bald hC q4 0 rfl b23 dX4_taking_258 ?_
                      refine ax_eqi (y := ft ((60 * (0 + u) + a))) (by rw [nI_clamp (by omega)]) ?_
                      refine ax_eqi (y := 1) ((hft _ (by omega)).resolve_left c22) ?_
                      refine ax_iret hC hr hlocks dX4_taking_259 ?_
                      exact ⟨rfl, fun q hq => rfl, hS, ⟨_, _, _, _, _, _, _, _, _, _, q0, q1, q2, q3, q4, q5, q6, q7, hfo, hov, hk0, hk1, hta, htb, hz0, hz1, hpl, hft⟩, (if_neg (fun q9 => c4 (by rw [q9]; rfl))).symm⟩
                    · refine ax_aload_n hC 6 dX4_taking_208 rfl rfl ?_
                      refine ax_getf (v := .ref cm) hC q0 iX4 rfl 5 (by decide) (by decide +kernel) rfl rfl dX4_taking_209 ?_
                      refine ax_aload_n hC 5 dX4_taking_212 rfl rfl ?_
                      refine ax_aload_n hC 5 dX4_taking_213 rfl rfl ?_
                      refine ax_iload hC 2 dX4_taking_214 rfl ?_
                      refine ax_callVp (st := [.ref aF, .ref cm]) hC [.int (nI a)] hF.1 rfl (c_X7_innerOf l D z B lo _ h aF _ TF (nI a) hF hwF.1) (cwV 1 hC.1.2.2.2.2 gX4_taking_X7_innerOf rfl rfl rfl (by decide +kernel) ⟨Nat.le_of_ble_eq_true rfl, Nat.le_of_ble_eq_true rfl⟩) rfl rfl (Nat.le_of_ble_eq_true rfl) dX4_taking_216 ⟨Nat.le_of_ble_eq_true rfl, Nat.le_of_ble_eq_true rfl⟩ (fun r25 er26 => ?_)
                      subst er26
                      refine ax_eqi (y := nI (inn TF a)) ((sN_eq hwF _).1) ?_
                      refine ax_aload_n hC 4 dX4_taking_219 rfl rfl ?_
                      refine ax_aload_n hC 4 dX4_taking_220 rfl rfl ?_
                      refine ax_iload hC 3 dX4_taking_221 rfl ?_
                      refine ax_iconst (v := 1) hC dX4_taking_223 (by decide) ?_
                      refine ax_isub hC dX4_taking_224 ?_
                      refine ax_eqi (y := nI u) (by rw [hxu, Nat.add_comm]; exact nI_pred u) ?_
                      refine ax_callVp (st := [.ref aG, .int (nI (inn TF a)), .ref aF, .ref cm]) hC [.int (nI u)] hG.1 rfl (c_X7_innerOf l D z B lo _ h aG _ TG (nI u) hG hwG.1) (cwV 1 hC.1.2.2.2.2 gX4_taking_X7_innerOf rfl rfl rfl (by decide +kernel) ⟨Nat.le_of_ble_eq_true rfl, Nat.le_of_ble_eq_true rfl⟩) rfl rfl (Nat.le_of_ble_eq_true rfl) dX4_taking_225 ⟨Nat.le_of_ble_eq_true rfl, Nat.le_of_ble_eq_true rfl⟩ (fun r27 er28 => ?_)
                      subst er28
                      refine ax_eqi (y := nI (inn TG u)) ((sN_eq hwG _).1) ?_
                      refine ax_iconst (v := 0) hC dX4_taking_228 (by decide) ?_
                      refine ax_callVi (st := []) hC [.ref aF, .int (nI (inn TF a)), .ref aG, .int (nI (inn TG u)), .int 0] hSo rfl (c_X1_holds l D z B lo _ h cm aF aG (inn TF a) (inn TG u) _ _ TF TG hS hF hG hwF hwG (sN_eq hwF _).2 (sN_eq hwG _).2 (by omega) (by omega)) (cwV 5 hC.1.2.2.2.2 gX4_taking_X1_holds rfl rfl rfl (by decide +kernel) ⟨Nat.le_of_ble_eq_true rfl, Nat.le_of_ble_eq_true rfl⟩) rfl rfl (Nat.le_of_ble_eq_true rfl) dX4_taking_229 ⟨Nat.le_of_ble_eq_true rfl, Nat.le_of_ble_eq_true rfl⟩ (fun r29 hi30 h31 hp32 => ?_)
                      obtain ⟨ei33, fr34, hS2, hc9⟩ := hp32
                      replace ei33 := ei33.symm
                      subst ei33
                      have x35 : h31 mt = some (.inr (6, [.int (nI fo), .int 0, .int 0, .int (-2), .int most, .ref cm, .ref (mt + 1), .ref (mt + 2), .ref (mt + 3), .ref (mt + 4), .ref (mt + 5), .ref (mt + 6), .ref (mt + 7), .int nr, .int over])) := (fr34 _ (by omega)).trans q0
                      have x36 : h31 (mt + 1) = some (.inl (z 2, 3000, .inr (.inl (pl)))) := (fr34 _ (by omega)).trans q1
                      have x37 : h31 (mt + 2) = some (.inl (z 1, 3000, .inl (mv))) := (fr34 _ (by omega)).trans q2
                      have x38 : h31 (mt + 3) = some (.inl (z 1, 8192, .inl (sl))) := (fr34 _ (by omega)).trans q3
                      have x39 : h31 (mt + 4) = some (.inl (z 0, 7200, .inl (ft))) := (fr34 _ (by omega)).trans q4
                      have x40 : h31 (mt + 5) = some (.inl (z 5, 2, .inr (.inr (.inr (.inr (tk)))))) := (fr34 _ (by omega)).trans q5
                      have x41 : h31 (mt + 6) = some (.inl (z 1, 2, .inl (ats))) := (fr34 _ (by omega)).trans q6
                      have x42 : h31 (mt + 7) = some (.inl (z 1, 2, .inl (lns))) := (fr34 _ (by omega)).trans q7
                      have hp_43 : PrC z h31 aF _ TF := hF.kept (fun q _ _ => fr34 q (by omega))
                      have hp_44 : PrC z h31 aG _ TG := hG.kept (fun q _ _ => fr34 q (by omega))
                      have rr : r29 = 1 := hc9.elim (fun q9 => q9.1) (fun q9 => absurd (hFit c18) q9.2)
                      subst rr
                      refine ax_istore hC [(8, .int 1), (7, .int (nI (60 * (0 + u) + a))), (6, .int (pK TF a)), (5, .int (nI a)), (4, .int (nI (l1 % 128))), (3, .ref aG), (2, .ref aF), (0, .ref mt), (1, .int 0)] dX4_taking_232 (by decide) rfl ?_
                      refine ax_aload_n hC 7 dX4_taking_234 rfl rfl ?_
                      refine ax_getf (v := .ref (mt + 4)) hC x35 iX4 rfl 9 (by decide) (by decide +kernel) rfl rfl dX4_taking_235 ?_
                      refine ax_iload hC 1 dX4_taking_238 rfl ?_
                      refine ax_iload hC 0 dX4_taking_240 rfl ?_
                      refine ax_if_eq (tgt := 249) hC dX4_taking_242 (by decide) (fun c45 => ?_) (fun c45 => ?_)
                      · exact absurd c45 (by decide)
                      · refine ax_iconst (v := 1) hC dX4_taking_245 (by decide) ?_
                        refine ax_goto (tgt := 250) hC dX4_taking_246 (by decide) ?_
                        refine ax_i2b hC dX4_taking_250 rfl ?_
                        refine ax_eqi (y := 1) (by decide) ?_
                        have b47 : vp_in (nI (60 * (0 + u) + a)) 7200 := vp_in_nI (by omega) (by omega)
                        refine ax_bast hC x39 0 rfl b47 dX4_taking_251 (fun h48 e49 f50 => ?_)
                        rw [nI_clamp (by omega)] at e49
                        have x51 : h48 mt = some (.inr (6, [.int (nI fo), .int 0, .int 0, .int (-2), .int most, .ref cm, .ref (mt + 1), .ref (mt + 2), .ref (mt + 3), .ref (mt + 4), .ref (mt + 5), .ref (mt + 6), .ref (mt + 7), .int nr, .int over])) := (f50 _ (by omega)).trans x35
                        have x52 : h48 (mt + 1) = some (.inl (z 2, 3000, .inr (.inl (pl)))) := (f50 _ (by omega)).trans x36
                        have x53 : h48 (mt + 2) = some (.inl (z 1, 3000, .inl (mv))) := (f50 _ (by omega)).trans x37
                        have x54 : h48 (mt + 3) = some (.inl (z 1, 8192, .inl (sl))) := (f50 _ (by omega)).trans x38
                        have x55 : h48 (mt + 5) = some (.inl (z 5, 2, .inr (.inr (.inr (.inr (tk)))))) := (f50 _ (by omega)).trans x40
                        have x56 : h48 (mt + 6) = some (.inl (z 1, 2, .inl (ats))) := (f50 _ (by omega)).trans x41
                        have x57 : h48 (mt + 7) = some (.inl (z 1, 2, .inl (lns))) := (f50 _ (by omega)).trans x42
                        have hp_58 : PrC z h48 aF _ TF := hp_43.kept (fun q _ _ => f50 q (by omega))
                        have hp_59 : PrC z h48 aG _ TG := hp_44.kept (fun q _ _ => f50 q (by omega))
                        refine ax_aload_n hC 7 dX4_taking_252 rfl rfl ?_
                        refine ax_getf (v := .ref (mt + 4)) hC x51 iX4 rfl 9 (by decide) (by decide +kernel) rfl rfl dX4_taking_253 ?_
                        refine ax_iload hC 1 dX4_taking_256 rfl ?_
                        have b60 : vp_in (nI (60 * (0 + u) + a)) 7200 := vp_in_nI (by omega) (by omega)
                        refine ax_bald hC e49 0 rfl b60 dX4_taking_258 ?_
                        refine ax_eqi (y := (upd ft ((60 * (0 + u) + a)) (vp_nar .byte 1)) ((60 * (0 + u) + a))) (by rw [nI_clamp (by omega)]) ?_
                        refine ax_eqi (y := 1) (by simp [upd]; decide) ?_
                        refine ax_iret hC hr hlocks dX4_taking_259 ?_
                        have hS61 := CmpS.kept (h' := h48) hS2 (fun q _ _ => f50 q (by omega))
                        exact ⟨rfl, fun q hq => ((f50 q (by omega)).trans (fr34 q (by omega))), hS61, ⟨_, _, _, _, _, _, _, _, _, _, x51, x52, x53, x54, e49, x55, x56, x57, hfo, hov, hk0, hk1, hta, htb, hz0, hz1, hpl, (ft_set hft _)⟩, (if_neg (fun q9 => c4 (by rw [q9]; rfl))).symm⟩
                  · exact absurd (by rw [nI_ltL (k := 7200) (by decide) (by omega)]; omega) c20
              · refine ax_iconst (v := 1) hC dX4_taking_160 (by decide) ?_
                refine ax_iret hC hr hlocks dX4_taking_161 ?_
                exact ⟨rfl, fun q hq => rfl, hS, ⟨_, _, _, _, _, _, _, _, _, _, q0, q1, q2, q3, q4, q5, q6, q7, hfo, hov, hk0, hk1, hta, htb, hz0, hz1, hpl, hft⟩, (if_neg (fun q9 => c4 (by rw [q9]; rfl))).symm⟩
            · exact absurd hSS c15
        · exact absurd hK2 c9
      · exact absurd (hK2.symm.trans c8) (by decide)
    · refine ax_aload_n hC 3 dX4_taking_50 rfl rfl ?_
      refine ax_getf (v := .ref (mt + 6)) hC q0 iX4 rfl 11 (by decide) (by decide +kernel) rfl rfl dX4_taking_51 ?_
      refine ax_iload_n hC 4 dX4_taking_54 rfl rfl ?_
      refine ax_iconst (v := 1) hC dX4_taking_55 (by decide) ?_
      refine ax_iand hC dX4_taking_56 ?_
      refine ax_eqi (y := 0) (by decide) ?_
      have b63 : vp_in 0 2 := vp_in_iff.mpr (by decide)
      refine ax_iald hC q6 1 rfl b63 dX4_taking_57 ?_
      refine ax_eqi (y := nI a) (hta) ?_
      refine ax_istore hC [(5, .int (nI a)), (4, .int (nI (l1 % 128))), (3, .ref aG), (2, .ref aF), (0, .ref mt), (1, .int 0)] dX4_taking_58 (by decide) rfl ?_
      refine ax_aload_n hC 3 dX4_taking_60 rfl rfl ?_
      refine ax_iload hC 0 dX4_taking_61 rfl ?_
      refine ax_callVp (st := []) hC [.int (nI a)] hF.1 rfl (c_X7_kindOf l D z B lo _ h aF _ TF (nI a) hF hwF.1) (cwV 1 hC.1.2.2.2.2 gX4_taking_X7_kindOf rfl rfl rfl (by decide +kernel) ⟨Nat.le_of_ble_eq_true rfl, Nat.le_of_ble_eq_true rfl⟩) rfl rfl (Nat.le_of_ble_eq_true rfl) dX4_taking_63 ⟨Nat.le_of_ble_eq_true rfl, Nat.le_of_ble_eq_true rfl⟩ (fun r64 er65 => ?_)
      subst er65
      refine ax_eqi (y := pK TF a) (rd_nat ha (by omega)) ?_
      refine ax_istore hC [(6, .int (pK TF a)), (5, .int (nI a)), (4, .int (nI (l1 % 128))), (3, .ref aG), (2, .ref aF), (0, .ref mt), (1, .int 0)] dX4_taking_66 (by decide) rfl ?_
      refine ax_iload hC 0 dX4_taking_68 rfl ?_
      refine ax_iconst (v := 4) hC dX4_taking_70 (by decide) ?_
      refine ax_icmp_ne (tgt := 115) hC dX4_taking_71 (by decide) (fun c66 => ?_) (fun c66 => ?_)
      · exact absurd hK4 c66
      · refine ax_iload hC 2 dX4_taking_74 rfl ?_
        refine ax_iconst (v := 1) hC dX4_taking_76 (by decide) ?_
        refine ax_isub hC dX4_taking_77 ?_
        refine ax_bipush (v := 60) hC dX4_taking_78 (by decide) ?_
        refine ax_isub hC dX4_taking_80 ?_
        refine ax_eqi (y := nI j) (by rw [hxj]; exact lab_e j) ?_
        refine ax_istore hC [(7, .int (nI j)), (6, .int (pK TF a)), (5, .int (nI a)), (4, .int (nI (l1 % 128))), (3, .ref aG), (2, .ref aF), (0, .ref mt), (1, .int 0)] dX4_taking_81 (by decide) rfl ?_
        refine ax_iload hC 0 dX4_taking_83 rfl ?_
        refine ax_if_lt (tgt := 113) hC dX4_taking_85 (by decide) (fun c67 => ?_) (fun c67 => ?_)
        · exact absurd c67 (nI_pos (by omega))
        · refine ax_iload hC 0 dX4_taking_88 rfl ?_
          refine ax_bipush (v := 26) hC dX4_taking_90 (by decide) ?_
          refine ax_icmp_ge (tgt := 113) hC dX4_taking_92 (by decide) (fun c68 => ?_) (fun c68 => ?_)
          · exact absurd c68 (by rw [L_leN (k := 26) (by decide) (by omega)]; omega)
          · refine ax_aload_n hC 5 dX4_taking_95 rfl rfl ?_
            refine ax_iload hC 2 dX4_taking_96 rfl ?_
            refine ax_callVp (st := []) hC [.int (nI a)] hF.1 rfl (c_X7_labelsOf l D z B lo _ h aF _ TF (nI a) hF hwF.1) (cwV 1 hC.1.2.2.2.2 gX4_taking_X7_labelsOf rfl rfl rfl (by decide +kernel) ⟨Nat.le_of_ble_eq_true rfl, Nat.le_of_ble_eq_true rfl⟩) rfl rfl (Nat.le_of_ble_eq_true rfl) dX4_taking_98 ⟨Nat.le_of_ble_eq_true rfl, Nat.le_of_ble_eq_true rfl⟩ (fun r69 er70 => ?_)
            subst er70
            refine ax_eqi (y := nI (2 ^ nlab TF a - 1)) ((rd_nat ha (by omega)).trans (nlab_eq hwF ha).1) ?_
            refine ax_iload hC 0 dX4_taking_101 rfl ?_
            refine ax_ishr hC dX4_taking_103 ?_
            refine ax_iconst (v := 1) hC dX4_taking_104 (by decide) ?_
            refine ax_iand hC dX4_taking_105 ?_
            refine ax_eqi (y := 1) ((lab_bit _ hj3 j (by omega)).trans (if_pos hj)) ?_
            refine ax_if_eq (tgt := 113) hC dX4_taking_106 (by decide) (fun c71 => ?_) (fun c71 => ?_)
            · exact absurd c71 (by decide)
            · refine ax_iconst (v := 1) hC dX4_taking_109 (by decide) ?_
              refine ax_goto (tgt := 114) hC dX4_taking_110 (by decide) ?_
              refine ax_iret hC hr hlocks dX4_taking_114 ?_
              exact ⟨rfl, fun q hq => rfl, hS, ⟨_, _, _, _, _, _, _, _, _, _, q0, q1, q2, q3, q4, q5, q6, q7, hfo, hov, hk0, hk1, hta, htb, hz0, hz1, hpl, hft⟩, (if_neg (fun q9 => c4 (by rw [q9]; rfl))).symm⟩
  · refine ax_iconst (v := 0) hC dX4_taking_48 (by decide) ?_
    refine ax_iret hC hr hlocks dX4_taking_49 ?_
    exact ⟨rfl, fun q hq => rfl, hS, ⟨_, _, _, _, _, _, _, _, _, _, q0, q1, q2, q3, q4, q5, q6, q7, hfo, hov, hk0, hk1, hta, htb, hz0, hz1, hpl, hft⟩, (if_pos (hm1 ((nI_eq (b := 0) (by omega) (by decide)).mp c4))).symm⟩

set_option maxRecDepth 100000 in
set_option maxHeartbeats 4000000 in
theorem c_X4_taking_1 (l : Launch) (D : va_G) (z : Nat → ClassId) (B : Heap) (lo hi : Nat) (h : Nat → Option va_E) (mt cm aF aG : Nat) (nr : Int32) (TF TG : PT) (W : Nat → Nat → Prop) (a b l0 l1 : Nat) (ndF ndG : Int32) (hX : MtX z h mt cm aF aG nr TF TG W a b l0 l1) (hF : PrC z h aF ndF TF) (hG : PrC z h aG ndG TG) (hwF : wfP TF) (hwG : wfP TG) (hM : MeetW TF TG W) (hok : PlaceOK TF TG W a b l0 l1) (hmF : mt + 8 ≤ aF) (hmG : mt + 8 ≤ aG) (hS : CmpS z h cm) (hcm : cm + 3 ≤ mt) : Met l yX4_taking wsX4_taking rmX4_taking (KP D vwCl B lo hi h (ty6 z) [.ref mt, .int 1]) (KQi D vwCl B lo (ty6 z) (fun r hi' h' => hi' = hi ∧ (∀ q, (q < cm ∨ (cm + 3 ≤ q ∧ q < mt) ∨ mt + 8 ≤ q) → h' q = h q) ∧ CmpS z h' cm ∧ MtX z h' mt cm aF aG nr TF TG W a b l0 l1 ∧ r = if l0 = 0 then 0 else 1)) 0 0 (fun q => lo ≤ q) := by
  obtain ⟨fo, most, over, pl, mv, sl, ft, tk, ats, lns, q0, q1, q2, q3, q4, q5, q6, q7, hfo, hov, hk0, hk1, hta, htb, hz0, hz1, hpl, hft⟩ := id hX
  have hwF1 := hwF.1
  have hwG1 := hwG.1
  obtain ⟨ha, hb, hl0, hl1, hm0, hm1⟩ := hok.bnd hwF hwG hM
  obtain ⟨_, _, _, hSo, -⟩ := id hS
  refine ax_met (by decide) rfl (Nat.le_of_ble_eq_true rfl) (L0 := [(0, .ref mt), (1, .int 1)]) rfl ?_
  intro p e s m args below meth c hC hr hlocks hnm hargs
  have iX4 : ∀ w ∈ u_ws RX4 TX4 15, w ∈ wsX4_taking := by decide +kernel
  refine ax_aload_n hC 0 dX4_taking_0 rfl rfl ?_
  refine ax_getf (v := .ref (mt + 5)) hC q0 iX4 rfl 10 (by decide) (by decide +kernel) rfl rfl dX4_taking_1 ?_
  refine ax_iload_n hC 1 dX4_taking_4 rfl rfl ?_
  refine ax_iconst (v := 1) hC dX4_taking_5 (by decide) ?_
  refine ax_iand hC dX4_taking_6 ?_
  refine ax_eqi (y := 1) (by decide) ?_
  have b1 : vp_in 1 2 := vp_in_iff.mpr (by decide)
  refine ax_aald hC q5 5 rfl b1 dX4_taking_7 ?_
  refine ax_eqq (y := some aG) (hk1) ?_
  refine ax_astore_n hC [(2, .ref aG), (0, .ref mt), (1, .int 1)] dX4_taking_8 rfl (by decide) rfl ?_
  refine ax_aload_n hC 1 dX4_taking_9 rfl rfl ?_
  refine ax_getf (v := .ref (mt + 5)) hC q0 iX4 rfl 10 (by decide) (by decide +kernel) rfl rfl dX4_taking_10 ?_
  refine ax_iconst (v := 1) hC dX4_taking_13 (by decide) ?_
  refine ax_iload_n hC 2 dX4_taking_14 rfl rfl ?_
  refine ax_isub hC dX4_taking_15 ?_
  refine ax_eqi (y := 0) (by decide) ?_
  refine ax_iconst (v := 1) hC dX4_taking_16 (by decide) ?_
  refine ax_iand hC dX4_taking_17 ?_
  refine ax_eqi (y := 0) (by decide) ?_
  have b2 : vp_in 0 2 := vp_in_iff.mpr (by decide)
  refine ax_aald hC q5 5 rfl b2 dX4_taking_18 ?_
  refine ax_eqq (y := some aF) (hk0) ?_
  refine ax_astore_n hC [(3, .ref aF), (2, .ref aG), (0, .ref mt), (1, .int 1)] dX4_taking_19 rfl (by decide) rfl ?_
  refine ax_aload_n hC 2 dX4_taking_20 rfl rfl ?_
  refine ax_getf (v := .ref (mt + 7)) hC q0 iX4 rfl 12 (by decide) (by decide +kernel) rfl rfl dX4_taking_21 ?_
  refine ax_iconst (v := 1) hC dX4_taking_24 (by decide) ?_
  refine ax_iload_n hC 3 dX4_taking_25 rfl rfl ?_
  refine ax_isub hC dX4_taking_26 ?_
  refine ax_eqi (y := 0) (by decide) ?_
  refine ax_iconst (v := 1) hC dX4_taking_27 (by decide) ?_
  refine ax_iand hC dX4_taking_28 ?_
  refine ax_eqi (y := 0) (by decide) ?_
  have b3 : vp_in 0 2 := vp_in_iff.mpr (by decide)
  refine ax_iald hC q7 1 rfl b3 dX4_taking_29 ?_
  refine ax_eqi (y := nI l0) (hz0) ?_
  refine ax_bipush (v := 127) hC dX4_taking_30 (by decide) ?_
  refine ax_iand hC dX4_taking_32 ?_
  refine ax_eqi (y := nI (l0 % 128)) (i32_and l0 7) ?_
  refine ax_istore hC [(4, .int (nI (l0 % 128))), (3, .ref aF), (2, .ref aG), (0, .ref mt), (1, .int 1)] dX4_taking_33 (by decide) rfl ?_
  refine ax_aload_n hC 2 dX4_taking_35 rfl rfl ?_
  refine ax_ifnull hC dX4_taking_36 ?_
  refine ax_aload_n hC 1 dX4_taking_39 rfl rfl ?_
  refine ax_ifnull hC dX4_taking_40 ?_
  refine ax_iload hC 0 dX4_taking_43 rfl ?_
  refine ax_if_ne (tgt := 50) hC dX4_taking_45 (by decide) (fun c4 => ?_) (fun c4 => ?_)
  · obtain ⟨htake, -⟩ := (hok.flip.take0 hwG hwF hM.flip (fun q9 => c4 (by rw [q9]; rfl)))
    have hj3 := (nlab_eq hwG hb).2
    rcases htake with ⟨hK2, u, hu, hxu, hSS, hFit⟩ | ⟨hK4, j, hj, hxj⟩
    · refine ax_aload_n hC 3 dX4_taking_50 rfl rfl ?_
      refine ax_getf (v := .ref (mt + 6)) hC q0 iX4 rfl 11 (by decide) (by decide +kernel) rfl rfl dX4_taking_51 ?_
      refine ax_iload_n hC 4 dX4_taking_54 rfl rfl ?_
      refine ax_iconst (v := 1) hC dX4_taking_55 (by decide) ?_
      refine ax_iand hC dX4_taking_56 ?_
      refine ax_eqi (y := 1) (by decide) ?_
      have b5 : vp_in 1 2 := vp_in_iff.mpr (by decide)
      refine ax_iald hC q6 1 rfl b5 dX4_taking_57 ?_
      refine ax_eqi (y := nI b) (htb) ?_
      refine ax_istore hC [(5, .int (nI b)), (4, .int (nI (l0 % 128))), (3, .ref aF), (2, .ref aG), (0, .ref mt), (1, .int 1)] dX4_taking_58 (by decide) rfl ?_
      refine ax_aload_n hC 3 dX4_taking_60 rfl rfl ?_
      refine ax_iload hC 0 dX4_taking_61 rfl ?_
      refine ax_callVp (st := []) hC [.int (nI b)] hG.1 rfl (c_X7_kindOf l D z B lo _ h aG _ TG (nI b) hG hwG.1) (cwV 1 hC.1.2.2.2.2 gX4_taking_X7_kindOf rfl rfl rfl (by decide +kernel) ⟨Nat.le_of_ble_eq_true rfl, Nat.le_of_ble_eq_true rfl⟩) rfl rfl (Nat.le_of_ble_eq_true rfl) dX4_taking_63 ⟨Nat.le_of_ble_eq_true rfl, Nat.le_of_ble_eq_true rfl⟩ (fun r6 er7 => ?_)
      subst er7
      refine ax_eqi (y := pK TG b) (rd_nat hb (by omega)) ?_
      refine ax_istore hC [(6, .int (pK TG b)), (5, .int (nI b)), (4, .int (nI (l0 % 128))), (3, .ref aF), (2, .ref aG), (0, .ref mt), (1, .int 1)] dX4_taking_66 (by decide) rfl ?_
      refine ax_iload hC 0 dX4_taking_68 rfl ?_
      refine ax_iconst (v := 4) hC dX4_taking_70 (by decide) ?_
      refine ax_icmp_ne (tgt := 115) hC dX4_taking_71 (by decide) (fun c8 => ?_) (fun c8 => ?_)
      · refine ax_iload hC 0 dX4_taking_115 rfl ?_
        refine ax_iconst (v := 2) hC dX4_taking_117 (by decide) ?_
        refine ax_icmp_eq (tgt := 123) hC dX4_taking_118 (by decide) (fun c9 => ?_) (fun c9 => ?_)
        · refine ax_iload hC 2 dX4_taking_123 rfl ?_
          refine ax_bipush (v := 60) hC dX4_taking_125 (by decide) ?_
          refine ax_icmp_gt (tgt := 147) hC dX4_taking_127 (by decide) (fun c10 => ?_) (fun c10 => ?_)
          · exact absurd c10 (by rw [L_ltN (k := 60) (by decide) (by omega)]; omega)
          · refine ax_aload_n hC 3 dX4_taking_130 rfl rfl ?_
            refine ax_iload hC 2 dX4_taking_131 rfl ?_
            refine ax_iconst (v := 1) hC dX4_taking_133 (by decide) ?_
            refine ax_isub hC dX4_taking_134 ?_
            refine ax_eqi (y := nI u) (by rw [hxu, Nat.add_comm]; exact nI_pred u) ?_
            refine ax_callVp (st := []) hC [.int (nI u)] hF.1 rfl (c_X7_sortOf l D z B lo _ h aF _ TF (nI u) hF hwF.1) (cwV 1 hC.1.2.2.2.2 gX4_taking_X7_sortOf rfl rfl rfl (by decide +kernel) ⟨Nat.le_of_ble_eq_true rfl, Nat.le_of_ble_eq_true rfl⟩) rfl rfl (Nat.le_of_ble_eq_true rfl) dX4_taking_135 ⟨Nat.le_of_ble_eq_true rfl, Nat.le_of_ble_eq_true rfl⟩ (fun r11 er12 => ?_)
            subst er12
            refine ax_eqi (y := pS TF u) (rd_nat hu (by omega)) ?_
            refine ax_aload_n hC 4 dX4_taking_138 rfl rfl ?_
            refine ax_iload hC 1 dX4_taking_139 rfl ?_
            refine ax_callVp (st := [.int (pS TF u)]) hC [.int (nI b)] hG.1 rfl (c_X7_sortOf l D z B lo _ h aG _ TG (nI b) hG hwG.1) (cwV 1 hC.1.2.2.2.2 gX4_taking_X7_sortOf rfl rfl rfl (by decide +kernel) ⟨Nat.le_of_ble_eq_true rfl, Nat.le_of_ble_eq_true rfl⟩) rfl rfl (Nat.le_of_ble_eq_true rfl) dX4_taking_141 ⟨Nat.le_of_ble_eq_true rfl, Nat.le_of_ble_eq_true rfl⟩ (fun r13 er14 => ?_)
            subst er14
            refine ax_eqi (y := pS TG b) (rd_nat hb (by omega)) ?_
            refine ax_icmp_eq (tgt := 149) hC dX4_taking_144 (by decide) (fun c15 => ?_) (fun c15 => ?_)
            · refine ax_aload_n hC 4 dX4_taking_149 rfl rfl ?_
              refine ax_iload hC 1 dX4_taking_150 rfl ?_
              refine ax_callVp (st := []) hC [.int (nI b)] hG.1 rfl (c_X7_sortOf l D z B lo _ h aG _ TG (nI b) hG hwG.1) (cwV 1 hC.1.2.2.2.2 gX4_taking_X7_sortOf rfl rfl rfl (by decide +kernel) ⟨Nat.le_of_ble_eq_true rfl, Nat.le_of_ble_eq_true rfl⟩) rfl rfl (Nat.le_of_ble_eq_true rfl) dX4_taking_152 ⟨Nat.le_of_ble_eq_true rfl, Nat.le_of_ble_eq_true rfl⟩ (fun r16 er17 => ?_)
              subst er17
              refine ax_eqi (y := pS TG b) (rd_nat hb (by omega)) ?_
              refine ax_bipush (v := 40) hC dX4_taking_155 (by decide) ?_
              refine ax_icmp_eq (tgt := 162) hC dX4_taking_157 (by decide) (fun c18 => ?_) (fun c18 => ?_)
              · refine ax_iload_n hC 6 dX4_taking_162 rfl rfl ?_
                refine ax_iconst (v := 1) hC dX4_taking_163 (by decide) ?_
                refine ax_iand hC dX4_taking_164 ?_
                refine ax_eqi (y := 1) (by decide) ?_
                refine ax_bipush (v := 60) hC dX4_taking_165 (by decide) ?_
                refine ax_imul hC dX4_taking_167 ?_
                refine ax_eqi (y := 60) (by decide) ?_
                refine ax_iload hC 2 dX4_taking_168 rfl ?_
                refine ax_iadd hC dX4_taking_170 ?_
                refine ax_eqi (y := nI (60 + u + 1)) (by rw [hxu]; exact (nI_add 60 (1 + u)).trans (congrArg nI (by omega))) ?_
                refine ax_iconst (v := 1) hC dX4_taking_171 (by decide) ?_
                refine ax_isub hC dX4_taking_172 ?_
                refine ax_eqi (y := nI (60 + u)) (nI_pred _) ?_
                refine ax_bipush (v := 60) hC dX4_taking_173 (by decide) ?_
                refine ax_imul hC dX4_taking_175 ?_
                refine ax_iload hC 1 dX4_taking_176 rfl ?_
                refine ax_iadd hC dX4_taking_178 ?_
                refine ax_eqi (y := nI (60 * (60 + u) + b)) (row_eq _ _) ?_
                refine ax_istore hC [(7, .int (nI (60 * (60 + u) + b))), (6, .int (pK TG b)), (5, .int (nI b)), (4, .int (nI (l0 % 128))), (3, .ref aF), (2, .ref aG), (0, .ref mt), (1, .int 1)] dX4_taking_179 (by decide) rfl ?_
                refine ax_iload hC 0 dX4_taking_181 rfl ?_
                refine ax_if_lt (tgt := 196) hC dX4_taking_183 (by decide) (fun c19 => ?_) (fun c19 => ?_)
                · exact absurd c19 (nI_pos (by omega))
                · refine ax_iload hC 0 dX4_taking_186 rfl ?_
                  refine ax_aload_n hC 6 dX4_taking_188 rfl rfl ?_
                  refine ax_getf (v := .ref (mt + 4)) hC q0 iX4 rfl 9 (by decide) (by decide +kernel) rfl rfl dX4_taking_189 ?_
                  refine ax_alen (v := 7200) hC q4 0 rfl rfl dX4_taking_192 ?_
                  refine ax_icmp_lt (tgt := 198) hC dX4_taking_193 (by decide) (fun c20 => ?_) (fun c20 => ?_)
                  · refine ax_aload_n hC 6 dX4_taking_198 rfl rfl ?_
                    refine ax_getf (v := .ref (mt + 4)) hC q0 iX4 rfl 9 (by decide) (by decide +kernel) rfl rfl dX4_taking_199 ?_
                    refine ax_iload hC 0 dX4_taking_202 rfl ?_
                    have b21 : vp_in (nI (60 * (60 + u) + b)) 7200 := vp_in_nI (by omega) (by omega)
                    refine ax_bald hC q4 0 rfl b21 dX4_taking_204 ?_
                    refine ax_eqi (y := ft ((60 * (60 + u) + b))) (by rw [nI_clamp (by omega)]) ?_
                    refine ax_if_ne (tgt := 252) hC dX4_taking_205 (by decide) (fun c22 => ?_) (fun c22 => ?_)
                    · refine ax_aload_n hC 6 dX4_taking_252 rfl rfl ?_
                      refine ax_getf (v := .ref (mt + 4)) hC q0 iX4 rfl 9 (by decide) (by decide +kernel) rfl rfl dX4_taking_253 ?_
                      refine ax_iload hC 0 dX4_taking_256 rfl ?_
                      have b23 : vp_in (nI (60 * (60 + u) + b)) 7200 := vp_in_nI (by omega) (by omega)
                      refine ax_bald hC q4 0 rfl b23 dX4_taking_258 ?_
                      refine ax_eqi (y := ft ((60 * (60 + u) + b))) (by rw [nI_clamp (by omega)]) ?_
                      refine ax_eqi (y := 1) ((hft _ (by omega)).resolve_left c22) ?_
                      refine ax_iret hC hr hlocks dX4_taking_259 ?_
                      exact ⟨rfl, fun q hq => rfl, hS, ⟨_, _, _, _, _, _, _, _, _, _, q0, q1, q2, q3, q4, q5, q6, q7, hfo, hov, hk0, hk1, hta, htb, hz0, hz1, hpl, hft⟩, (if_neg (fun q9 => c4 (by rw [q9]; rfl))).symm⟩
                    · refine ax_aload_n hC 6 dX4_taking_208 rfl rfl ?_
                      refine ax_getf (v := .ref cm) hC q0 iX4 rfl 5 (by decide) (by decide +kernel) rfl rfl dX4_taking_209 ?_
                      refine ax_aload_n hC 5 dX4_taking_212 rfl rfl ?_
                      refine ax_aload_n hC 5 dX4_taking_213 rfl rfl ?_
                      refine ax_iload hC 2 dX4_taking_214 rfl ?_
                      refine ax_callVp (st := [.ref aG, .ref cm]) hC [.int (nI b)] hG.1 rfl (c_X7_innerOf l D z B lo _ h aG _ TG (nI b) hG hwG.1) (cwV 1 hC.1.2.2.2.2 gX4_taking_X7_innerOf rfl rfl rfl (by decide +kernel) ⟨Nat.le_of_ble_eq_true rfl, Nat.le_of_ble_eq_true rfl⟩) rfl rfl (Nat.le_of_ble_eq_true rfl) dX4_taking_216 ⟨Nat.le_of_ble_eq_true rfl, Nat.le_of_ble_eq_true rfl⟩ (fun r25 er26 => ?_)
                      subst er26
                      refine ax_eqi (y := nI (inn TG b)) ((sN_eq hwG _).1) ?_
                      refine ax_aload_n hC 4 dX4_taking_219 rfl rfl ?_
                      refine ax_aload_n hC 4 dX4_taking_220 rfl rfl ?_
                      refine ax_iload hC 3 dX4_taking_221 rfl ?_
                      refine ax_iconst (v := 1) hC dX4_taking_223 (by decide) ?_
                      refine ax_isub hC dX4_taking_224 ?_
                      refine ax_eqi (y := nI u) (by rw [hxu, Nat.add_comm]; exact nI_pred u) ?_
                      refine ax_callVp (st := [.ref aF, .int (nI (inn TG b)), .ref aG, .ref cm]) hC [.int (nI u)] hF.1 rfl (c_X7_innerOf l D z B lo _ h aF _ TF (nI u) hF hwF.1) (cwV 1 hC.1.2.2.2.2 gX4_taking_X7_innerOf rfl rfl rfl (by decide +kernel) ⟨Nat.le_of_ble_eq_true rfl, Nat.le_of_ble_eq_true rfl⟩) rfl rfl (Nat.le_of_ble_eq_true rfl) dX4_taking_225 ⟨Nat.le_of_ble_eq_true rfl, Nat.le_of_ble_eq_true rfl⟩ (fun r27 er28 => ?_)
                      subst er28
                      refine ax_eqi (y := nI (inn TF u)) ((sN_eq hwF _).1) ?_
                      refine ax_iconst (v := 0) hC dX4_taking_228 (by decide) ?_
                      refine ax_callVi (st := []) hC [.ref aG, .int (nI (inn TG b)), .ref aF, .int (nI (inn TF u)), .int 0] hSo rfl (c_X1_holds l D z B lo _ h cm aG aF (inn TG b) (inn TF u) _ _ TG TF hS hG hF hwG hwF (sN_eq hwG _).2 (sN_eq hwF _).2 (by omega) (by omega)) (cwV 5 hC.1.2.2.2.2 gX4_taking_X1_holds rfl rfl rfl (by decide +kernel) ⟨Nat.le_of_ble_eq_true rfl, Nat.le_of_ble_eq_true rfl⟩) rfl rfl (Nat.le_of_ble_eq_true rfl) dX4_taking_229 ⟨Nat.le_of_ble_eq_true rfl, Nat.le_of_ble_eq_true rfl⟩ (fun r29 hi30 h31 hp32 => ?_)
                      obtain ⟨ei33, fr34, hS2, hc9⟩ := hp32
                      replace ei33 := ei33.symm
                      subst ei33
                      have x35 : h31 mt = some (.inr (6, [.int (nI fo), .int 0, .int 0, .int (-2), .int most, .ref cm, .ref (mt + 1), .ref (mt + 2), .ref (mt + 3), .ref (mt + 4), .ref (mt + 5), .ref (mt + 6), .ref (mt + 7), .int nr, .int over])) := (fr34 _ (by omega)).trans q0
                      have x36 : h31 (mt + 1) = some (.inl (z 2, 3000, .inr (.inl (pl)))) := (fr34 _ (by omega)).trans q1
                      have x37 : h31 (mt + 2) = some (.inl (z 1, 3000, .inl (mv))) := (fr34 _ (by omega)).trans q2
                      have x38 : h31 (mt + 3) = some (.inl (z 1, 8192, .inl (sl))) := (fr34 _ (by omega)).trans q3
                      have x39 : h31 (mt + 4) = some (.inl (z 0, 7200, .inl (ft))) := (fr34 _ (by omega)).trans q4
                      have x40 : h31 (mt + 5) = some (.inl (z 5, 2, .inr (.inr (.inr (.inr (tk)))))) := (fr34 _ (by omega)).trans q5
                      have x41 : h31 (mt + 6) = some (.inl (z 1, 2, .inl (ats))) := (fr34 _ (by omega)).trans q6
                      have x42 : h31 (mt + 7) = some (.inl (z 1, 2, .inl (lns))) := (fr34 _ (by omega)).trans q7
                      have hp_43 : PrC z h31 aF _ TF := hF.kept (fun q _ _ => fr34 q (by omega))
                      have hp_44 : PrC z h31 aG _ TG := hG.kept (fun q _ _ => fr34 q (by omega))
                      have rr : r29 = 1 := hc9.elim (fun q9 => q9.1) (fun q9 => absurd (hFit c18) q9.2)
                      subst rr
                      refine ax_istore hC [(8, .int 1), (7, .int (nI (60 * (60 + u) + b))), (6, .int (pK TG b)), (5, .int (nI b)), (4, .int (nI (l0 % 128))), (3, .ref aF), (2, .ref aG), (0, .ref mt), (1, .int 1)] dX4_taking_232 (by decide) rfl ?_
                      refine ax_aload_n hC 7 dX4_taking_234 rfl rfl ?_
                      refine ax_getf (v := .ref (mt + 4)) hC x35 iX4 rfl 9 (by decide) (by decide +kernel) rfl rfl dX4_taking_235 ?_
                      refine ax_iload hC 1 dX4_taking_238 rfl ?_
                      refine ax_iload hC 0 dX4_taking_240 rfl ?_
                      refine ax_if_eq (tgt := 249) hC dX4_taking_242 (by decide) (fun c45 => ?_) (fun c45 => ?_)
                      · exact absurd c45 (by decide)
                      · refine ax_iconst (v := 1) hC dX4_taking_245 (by decide) ?_
                        refine ax_goto (tgt := 250) hC dX4_taking_246 (by decide) ?_
                        refine ax_i2b hC dX4_taking_250 rfl ?_
                        refine ax_eqi (y := 1) (by decide) ?_
                        have b47 : vp_in (nI (60 * (60 + u) + b)) 7200 := vp_in_nI (by omega) (by omega)
                        refine ax_bast hC x39 0 rfl b47 dX4_taking_251 (fun h48 e49 f50 => ?_)
                        rw [nI_clamp (by omega)] at e49
                        have x51 : h48 mt = some (.inr (6, [.int (nI fo), .int 0, .int 0, .int (-2), .int most, .ref cm, .ref (mt + 1), .ref (mt + 2), .ref (mt + 3), .ref (mt + 4), .ref (mt + 5), .ref (mt + 6), .ref (mt + 7), .int nr, .int over])) := (f50 _ (by omega)).trans x35
                        have x52 : h48 (mt + 1) = some (.inl (z 2, 3000, .inr (.inl (pl)))) := (f50 _ (by omega)).trans x36
                        have x53 : h48 (mt + 2) = some (.inl (z 1, 3000, .inl (mv))) := (f50 _ (by omega)).trans x37
                        have x54 : h48 (mt + 3) = some (.inl (z 1, 8192, .inl (sl))) := (f50 _ (by omega)).trans x38
                        have x55 : h48 (mt + 5) = some (.inl (z 5, 2, .inr (.inr (.inr (.inr (tk)))))) := (f50 _ (by omega)).trans x40
                        have x56 : h48 (mt + 6) = some (.inl (z 1, 2, .inl (ats))) := (f50 _ (by omega)).trans x41
                        have x57 : h48 (mt + 7) = some (.inl (z 1, 2, .inl (lns))) := (f50 _ (by omega)).trans x42
                        have hp_58 : PrC z h48 aF _ TF := hp_43.kept (fun q _ _ => f50 q (by omega))
                        have hp_59 : PrC z h48 aG _ TG := hp_44.kept (fun q _ _ => f50 q (by omega))
                        refine ax_aload_n hC 7 dX4_taking_252 rfl rfl ?_
                        refine ax_getf (v := .ref (mt + 4)) hC x51 iX4 rfl 9 (by decide) (by decide +kernel) rfl rfl dX4_taking_253 ?_
                        refine ax_iload hC 1 dX4_taking_256 rfl ?_
                        have b60 : vp_in (nI (60 * (60 + u) + b)) 7200 := vp_in_nI (by omega) (by omega)
                        refine ax_bald hC e49 0 rfl b60 dX4_taking_258 ?_
                        refine ax_eqi (y := (upd ft ((60 * (60 + u) + b)) (vp_nar .byte 1)) ((60 * (60 + u) + b))) (by rw [nI_clamp (by omega)]) ?_
                        refine ax_eqi (y := 1) (by simp [upd]; decide) ?_
                        refine ax_iret hC hr hlocks dX4_taking_259 ?_
                        have hS61 := CmpS.kept (h' := h48) hS2 (fun q _ _ => f50 q (by omega))
                        exact ⟨rfl, fun q hq => ((f50 q (by omega)).trans (fr34 q (by omega))), hS61, ⟨_, _, _, _, _, _, _, _, _, _, x51, x52, x53, x54, e49, x55, x56, x57, hfo, hov, hk0, hk1, hta, htb, hz0, hz1, hpl, (ft_set hft _)⟩, (if_neg (fun q9 => c4 (by rw [q9]; rfl))).symm⟩
                  · exact absurd (by rw [nI_ltL (k := 7200) (by decide) (by omega)]; omega) c20
              · refine ax_iconst (v := 1) hC dX4_taking_160 (by decide) ?_
                refine ax_iret hC hr hlocks dX4_taking_161 ?_
                exact ⟨rfl, fun q hq => rfl, hS, ⟨_, _, _, _, _, _, _, _, _, _, q0, q1, q2, q3, q4, q5, q6, q7, hfo, hov, hk0, hk1, hta, htb, hz0, hz1, hpl, hft⟩, (if_neg (fun q9 => c4 (by rw [q9]; rfl))).symm⟩
            · exact absurd hSS c15
        · exact absurd hK2 c9
      · exact absurd (hK2.symm.trans c8) (by decide)
    · refine ax_aload_n hC 3 dX4_taking_50 rfl rfl ?_
      refine ax_getf (v := .ref (mt + 6)) hC q0 iX4 rfl 11 (by decide) (by decide +kernel) rfl rfl dX4_taking_51 ?_
      refine ax_iload_n hC 4 dX4_taking_54 rfl rfl ?_
      refine ax_iconst (v := 1) hC dX4_taking_55 (by decide) ?_
      refine ax_iand hC dX4_taking_56 ?_
      refine ax_eqi (y := 1) (by decide) ?_
      have b63 : vp_in 1 2 := vp_in_iff.mpr (by decide)
      refine ax_iald hC q6 1 rfl b63 dX4_taking_57 ?_
      refine ax_eqi (y := nI b) (htb) ?_
      refine ax_istore hC [(5, .int (nI b)), (4, .int (nI (l0 % 128))), (3, .ref aF), (2, .ref aG), (0, .ref mt), (1, .int 1)] dX4_taking_58 (by decide) rfl ?_
      refine ax_aload_n hC 3 dX4_taking_60 rfl rfl ?_
      refine ax_iload hC 0 dX4_taking_61 rfl ?_
      refine ax_callVp (st := []) hC [.int (nI b)] hG.1 rfl (c_X7_kindOf l D z B lo _ h aG _ TG (nI b) hG hwG.1) (cwV 1 hC.1.2.2.2.2 gX4_taking_X7_kindOf rfl rfl rfl (by decide +kernel) ⟨Nat.le_of_ble_eq_true rfl, Nat.le_of_ble_eq_true rfl⟩) rfl rfl (Nat.le_of_ble_eq_true rfl) dX4_taking_63 ⟨Nat.le_of_ble_eq_true rfl, Nat.le_of_ble_eq_true rfl⟩ (fun r64 er65 => ?_)
      subst er65
      refine ax_eqi (y := pK TG b) (rd_nat hb (by omega)) ?_
      refine ax_istore hC [(6, .int (pK TG b)), (5, .int (nI b)), (4, .int (nI (l0 % 128))), (3, .ref aF), (2, .ref aG), (0, .ref mt), (1, .int 1)] dX4_taking_66 (by decide) rfl ?_
      refine ax_iload hC 0 dX4_taking_68 rfl ?_
      refine ax_iconst (v := 4) hC dX4_taking_70 (by decide) ?_
      refine ax_icmp_ne (tgt := 115) hC dX4_taking_71 (by decide) (fun c66 => ?_) (fun c66 => ?_)
      · exact absurd hK4 c66
      · refine ax_iload hC 2 dX4_taking_74 rfl ?_
        refine ax_iconst (v := 1) hC dX4_taking_76 (by decide) ?_
        refine ax_isub hC dX4_taking_77 ?_
        refine ax_bipush (v := 60) hC dX4_taking_78 (by decide) ?_
        refine ax_isub hC dX4_taking_80 ?_
        refine ax_eqi (y := nI j) (by rw [hxj]; exact lab_e j) ?_
        refine ax_istore hC [(7, .int (nI j)), (6, .int (pK TG b)), (5, .int (nI b)), (4, .int (nI (l0 % 128))), (3, .ref aF), (2, .ref aG), (0, .ref mt), (1, .int 1)] dX4_taking_81 (by decide) rfl ?_
        refine ax_iload hC 0 dX4_taking_83 rfl ?_
        refine ax_if_lt (tgt := 113) hC dX4_taking_85 (by decide) (fun c67 => ?_) (fun c67 => ?_)
        · exact absurd c67 (nI_pos (by omega))
        · refine ax_iload hC 0 dX4_taking_88 rfl ?_
          refine ax_bipush (v := 26) hC dX4_taking_90 (by decide) ?_
          refine ax_icmp_ge (tgt := 113) hC dX4_taking_92 (by decide) (fun c68 => ?_) (fun c68 => ?_)
          · exact absurd c68 (by rw [L_leN (k := 26) (by decide) (by omega)]; omega)
          · refine ax_aload_n hC 5 dX4_taking_95 rfl rfl ?_
            refine ax_iload hC 2 dX4_taking_96 rfl ?_
            refine ax_callVp (st := []) hC [.int (nI b)] hG.1 rfl (c_X7_labelsOf l D z B lo _ h aG _ TG (nI b) hG hwG.1) (cwV 1 hC.1.2.2.2.2 gX4_taking_X7_labelsOf rfl rfl rfl (by decide +kernel) ⟨Nat.le_of_ble_eq_true rfl, Nat.le_of_ble_eq_true rfl⟩) rfl rfl (Nat.le_of_ble_eq_true rfl) dX4_taking_98 ⟨Nat.le_of_ble_eq_true rfl, Nat.le_of_ble_eq_true rfl⟩ (fun r69 er70 => ?_)
            subst er70
            refine ax_eqi (y := nI (2 ^ nlab TG b - 1)) ((rd_nat hb (by omega)).trans (nlab_eq hwG hb).1) ?_
            refine ax_iload hC 0 dX4_taking_101 rfl ?_
            refine ax_ishr hC dX4_taking_103 ?_
            refine ax_iconst (v := 1) hC dX4_taking_104 (by decide) ?_
            refine ax_iand hC dX4_taking_105 ?_
            refine ax_eqi (y := 1) ((lab_bit _ hj3 j (by omega)).trans (if_pos hj)) ?_
            refine ax_if_eq (tgt := 113) hC dX4_taking_106 (by decide) (fun c71 => ?_) (fun c71 => ?_)
            · exact absurd c71 (by decide)
            · refine ax_iconst (v := 1) hC dX4_taking_109 (by decide) ?_
              refine ax_goto (tgt := 114) hC dX4_taking_110 (by decide) ?_
              refine ax_iret hC hr hlocks dX4_taking_114 ?_
              exact ⟨rfl, fun q hq => rfl, hS, ⟨_, _, _, _, _, _, _, _, _, _, q0, q1, q2, q3, q4, q5, q6, q7, hfo, hov, hk0, hk1, hta, htb, hz0, hz1, hpl, hft⟩, (if_neg (fun q9 => c4 (by rw [q9]; rfl))).symm⟩
  · refine ax_iconst (v := 0) hC dX4_taking_48 (by decide) ?_
    refine ax_iret hC hr hlocks dX4_taking_49 ?_
    exact ⟨rfl, fun q hq => rfl, hS, ⟨_, _, _, _, _, _, _, _, _, _, q0, q1, q2, q3, q4, q5, q6, q7, hfo, hov, hk0, hk1, hta, htb, hz0, hz1, hpl, hft⟩, (if_pos (hm0 ((nI_eq (b := 0) (by omega) (by decide)).mp c4))).symm⟩

abbrev rmX4_isAtEnd : Room := { frames := 1, cells := 0, slots := 0, locals := 21 }
set_option maxRecDepth 100000 in
set_option maxHeartbeats 4000000 in
theorem c_X4_isAtEnd_0 (l : Launch) (D : va_G) (z : Nat → ClassId) (B : Heap) (lo hi : Nat) (h : Nat → Option va_E) (mt cm aF aG : Nat) (nr : Int32) (TF TG : PT) (W : Nat → Nat → Prop) (a b l0 l1 : Nat) (ndF ndG : Int32) (hX : MtX z h mt cm aF aG nr TF TG W a b l0 l1) (hF : PrC z h aF ndF TF) (hG : PrC z h aG ndG TG) (hwF : wfP TF) (hwG : wfP TG) (hM : MeetW TF TG W) (hok : PlaceOK TF TG W a b l0 l1) (hmF : mt + 8 ≤ aF) (hmG : mt + 8 ≤ aG) (hK : pK TF a = 0) (hl : l0 = 0) : Met l yX4_isAtEnd wsX4_isAtEnd rmX4_isAtEnd (KP D vwCl B lo hi h (ty6 z) [.ref mt, .int 0]) (KQp D vwCl B lo hi h (ty6 z) (fun r => r = 1)) 0 0 (fun q => lo ≤ q) := by
  obtain ⟨fo, most, over, pl, mv, sl, ft, tk, ats, lns, q0, q1, q2, q3, q4, q5, q6, q7, hfo, hov, hk0, hk1, hta, htb, hz0, hz1, hpl, hft⟩ := id hX
  have hwF1 := hwF.1
  have hwG1 := hwG.1
  obtain ⟨ha, hb, hl0, hl1, hm0, hm1⟩ := hok.bnd hwF hwG hM
  refine ax_met (by decide) rfl (Nat.le_of_ble_eq_true rfl) (L0 := [(0, .ref mt), (1, .int 0)]) rfl ?_
  intro p e s m args below meth c hC hr hlocks hnm hargs
  have iX4 : ∀ w ∈ u_ws RX4 TX4 15, w ∈ wsX4_isAtEnd := by decide +kernel
  refine ax_aload_n hC 0 dX4_isAtEnd_0 rfl rfl ?_
  refine ax_getf (v := .ref (mt + 5)) hC q0 iX4 rfl 10 (by decide) (by decide +kernel) rfl rfl dX4_isAtEnd_1 ?_
  refine ax_iload_n hC 1 dX4_isAtEnd_4 rfl rfl ?_
  refine ax_iconst (v := 1) hC dX4_isAtEnd_5 (by decide) ?_
  refine ax_iand hC dX4_isAtEnd_6 ?_
  refine ax_eqi (y := 0) (by decide) ?_
  have b1 : vp_in 0 2 := vp_in_iff.mpr (by decide)
  refine ax_aald hC q5 5 rfl b1 dX4_isAtEnd_7 ?_
  refine ax_eqq (y := some aF) (hk0) ?_
  refine ax_astore_n hC [(2, .ref aF), (0, .ref mt), (1, .int 0)] dX4_isAtEnd_8 rfl (by decide) rfl ?_
  refine ax_aload_n hC 0 dX4_isAtEnd_9 rfl rfl ?_
  refine ax_ifnull hC dX4_isAtEnd_10 ?_
  refine ax_aload_n hC 0 dX4_isAtEnd_13 rfl rfl ?_
  refine ax_aload_n hC 1 dX4_isAtEnd_14 rfl rfl ?_
  refine ax_getf (v := .ref (mt + 6)) hC q0 iX4 rfl 11 (by decide) (by decide +kernel) rfl rfl dX4_isAtEnd_15 ?_
  refine ax_iload_n hC 2 dX4_isAtEnd_18 rfl rfl ?_
  refine ax_iconst (v := 1) hC dX4_isAtEnd_19 (by decide) ?_
  refine ax_iand hC dX4_isAtEnd_20 ?_
  refine ax_eqi (y := 0) (by decide) ?_
  have b2 : vp_in 0 2 := vp_in_iff.mpr (by decide)
  refine ax_iald hC q6 1 rfl b2 dX4_isAtEnd_21 ?_
  refine ax_eqi (y := nI a) (hta) ?_
  refine ax_callVp (st := []) hC [.int (nI a)] hF.1 rfl (c_X7_kindOf l D z B lo _ h aF _ TF (nI a) hF hwF.1) (cwV 1 hC.1.2.2.2.2 gX4_isAtEnd_X7_kindOf rfl rfl rfl (by decide +kernel) ⟨Nat.le_of_ble_eq_true rfl, Nat.le_of_ble_eq_true rfl⟩) rfl rfl (Nat.le_of_ble_eq_true rfl) dX4_isAtEnd_22 ⟨Nat.le_of_ble_eq_true rfl, Nat.le_of_ble_eq_true rfl⟩ (fun r3 er4 => ?_)
  subst er4
  refine ax_eqi (y := 0) ((rd_nat ha (by omega)).trans hK) ?_
  refine ax_if_ne (tgt := 43) hC dX4_isAtEnd_25 (by decide) (fun c5 => ?_) (fun c5 => ?_)
  · exact absurd c5 (by decide)
  · refine ax_aload_n hC 1 dX4_isAtEnd_28 rfl rfl ?_
    refine ax_getf (v := .ref (mt + 7)) hC q0 iX4 rfl 12 (by decide) (by decide +kernel) rfl rfl dX4_isAtEnd_29 ?_
    refine ax_iload_n hC 2 dX4_isAtEnd_32 rfl rfl ?_
    refine ax_iconst (v := 1) hC dX4_isAtEnd_33 (by decide) ?_
    refine ax_iand hC dX4_isAtEnd_34 ?_
    refine ax_eqi (y := 0) (by decide) ?_
    have b6 : vp_in 0 2 := vp_in_iff.mpr (by decide)
    refine ax_iald hC q7 1 rfl b6 dX4_isAtEnd_35 ?_
    refine ax_eqi (y := 0) (hz0.trans (by rw [hl]; rfl)) ?_
    refine ax_if_ne (tgt := 43) hC dX4_isAtEnd_36 (by decide) (fun c7 => ?_) (fun c7 => ?_)
    · exact absurd c7 (by decide)
    · refine ax_iconst (v := 1) hC dX4_isAtEnd_39 (by decide) ?_
      refine ax_goto (tgt := 44) hC dX4_isAtEnd_40 (by decide) ?_
      refine ax_zret hC hr hlocks dX4_isAtEnd_44 (by decide) ?_
      exact ⟨rfl, rfl, rfl⟩

set_option maxRecDepth 100000 in
set_option maxHeartbeats 4000000 in
theorem c_X4_isAtEnd_1 (l : Launch) (D : va_G) (z : Nat → ClassId) (B : Heap) (lo hi : Nat) (h : Nat → Option va_E) (mt cm aF aG : Nat) (nr : Int32) (TF TG : PT) (W : Nat → Nat → Prop) (a b l0 l1 : Nat) (ndF ndG : Int32) (hX : MtX z h mt cm aF aG nr TF TG W a b l0 l1) (hF : PrC z h aF ndF TF) (hG : PrC z h aG ndG TG) (hwF : wfP TF) (hwG : wfP TG) (hM : MeetW TF TG W) (hok : PlaceOK TF TG W a b l0 l1) (hmF : mt + 8 ≤ aF) (hmG : mt + 8 ≤ aG) (hK : pK TG b = 0) (hl : l1 = 0) : Met l yX4_isAtEnd wsX4_isAtEnd rmX4_isAtEnd (KP D vwCl B lo hi h (ty6 z) [.ref mt, .int 1]) (KQp D vwCl B lo hi h (ty6 z) (fun r => r = 1)) 0 0 (fun q => lo ≤ q) := by
  obtain ⟨fo, most, over, pl, mv, sl, ft, tk, ats, lns, q0, q1, q2, q3, q4, q5, q6, q7, hfo, hov, hk0, hk1, hta, htb, hz0, hz1, hpl, hft⟩ := id hX
  have hwF1 := hwF.1
  have hwG1 := hwG.1
  obtain ⟨ha, hb, hl0, hl1, hm0, hm1⟩ := hok.bnd hwF hwG hM
  refine ax_met (by decide) rfl (Nat.le_of_ble_eq_true rfl) (L0 := [(0, .ref mt), (1, .int 1)]) rfl ?_
  intro p e s m args below meth c hC hr hlocks hnm hargs
  have iX4 : ∀ w ∈ u_ws RX4 TX4 15, w ∈ wsX4_isAtEnd := by decide +kernel
  refine ax_aload_n hC 0 dX4_isAtEnd_0 rfl rfl ?_
  refine ax_getf (v := .ref (mt + 5)) hC q0 iX4 rfl 10 (by decide) (by decide +kernel) rfl rfl dX4_isAtEnd_1 ?_
  refine ax_iload_n hC 1 dX4_isAtEnd_4 rfl rfl ?_
  refine ax_iconst (v := 1) hC dX4_isAtEnd_5 (by decide) ?_
  refine ax_iand hC dX4_isAtEnd_6 ?_
  refine ax_eqi (y := 1) (by decide) ?_
  have b1 : vp_in 1 2 := vp_in_iff.mpr (by decide)
  refine ax_aald hC q5 5 rfl b1 dX4_isAtEnd_7 ?_
  refine ax_eqq (y := some aG) (hk1) ?_
  refine ax_astore_n hC [(2, .ref aG), (0, .ref mt), (1, .int 1)] dX4_isAtEnd_8 rfl (by decide) rfl ?_
  refine ax_aload_n hC 0 dX4_isAtEnd_9 rfl rfl ?_
  refine ax_ifnull hC dX4_isAtEnd_10 ?_
  refine ax_aload_n hC 0 dX4_isAtEnd_13 rfl rfl ?_
  refine ax_aload_n hC 1 dX4_isAtEnd_14 rfl rfl ?_
  refine ax_getf (v := .ref (mt + 6)) hC q0 iX4 rfl 11 (by decide) (by decide +kernel) rfl rfl dX4_isAtEnd_15 ?_
  refine ax_iload_n hC 2 dX4_isAtEnd_18 rfl rfl ?_
  refine ax_iconst (v := 1) hC dX4_isAtEnd_19 (by decide) ?_
  refine ax_iand hC dX4_isAtEnd_20 ?_
  refine ax_eqi (y := 1) (by decide) ?_
  have b2 : vp_in 1 2 := vp_in_iff.mpr (by decide)
  refine ax_iald hC q6 1 rfl b2 dX4_isAtEnd_21 ?_
  refine ax_eqi (y := nI b) (htb) ?_
  refine ax_callVp (st := []) hC [.int (nI b)] hG.1 rfl (c_X7_kindOf l D z B lo _ h aG _ TG (nI b) hG hwG.1) (cwV 1 hC.1.2.2.2.2 gX4_isAtEnd_X7_kindOf rfl rfl rfl (by decide +kernel) ⟨Nat.le_of_ble_eq_true rfl, Nat.le_of_ble_eq_true rfl⟩) rfl rfl (Nat.le_of_ble_eq_true rfl) dX4_isAtEnd_22 ⟨Nat.le_of_ble_eq_true rfl, Nat.le_of_ble_eq_true rfl⟩ (fun r3 er4 => ?_)
  subst er4
  refine ax_eqi (y := 0) ((rd_nat hb (by omega)).trans hK) ?_
  refine ax_if_ne (tgt := 43) hC dX4_isAtEnd_25 (by decide) (fun c5 => ?_) (fun c5 => ?_)
  · exact absurd c5 (by decide)
  · refine ax_aload_n hC 1 dX4_isAtEnd_28 rfl rfl ?_
    refine ax_getf (v := .ref (mt + 7)) hC q0 iX4 rfl 12 (by decide) (by decide +kernel) rfl rfl dX4_isAtEnd_29 ?_
    refine ax_iload_n hC 2 dX4_isAtEnd_32 rfl rfl ?_
    refine ax_iconst (v := 1) hC dX4_isAtEnd_33 (by decide) ?_
    refine ax_iand hC dX4_isAtEnd_34 ?_
    refine ax_eqi (y := 1) (by decide) ?_
    have b6 : vp_in 1 2 := vp_in_iff.mpr (by decide)
    refine ax_iald hC q7 1 rfl b6 dX4_isAtEnd_35 ?_
    refine ax_eqi (y := 0) (hz1.trans (by rw [hl]; rfl)) ?_
    refine ax_if_ne (tgt := 43) hC dX4_isAtEnd_36 (by decide) (fun c7 => ?_) (fun c7 => ?_)
    · exact absurd c7 (by decide)
    · refine ax_iconst (v := 1) hC dX4_isAtEnd_39 (by decide) ?_
      refine ax_goto (tgt := 44) hC dX4_isAtEnd_40 (by decide) ?_
      refine ax_zret hC hr hlocks dX4_isAtEnd_44 (by decide) ?_
      exact ⟨rfl, rfl, rfl⟩

abbrev rmX4_moveOf : Room := { frames := 3, cells := 0, slots := 0, locals := 75 }
set_option maxRecDepth 100000 in
set_option maxHeartbeats 4000000 in
theorem c_X4_moveOf_0 (l : Launch) (D : va_G) (z : Nat → ClassId) (B : Heap) (lo hi : Nat) (h : Nat → Option va_E) (mt cm aF aG : Nat) (nr : Int32) (TF TG : PT) (W : Nat → Nat → Prop) (a b l0 l1 : Nat) (ndF ndG : Int32) (tkn steps : Int32) (hX : MtX z h mt cm aF aG nr TF TG W a b l0 l1) (hF : PrC z h aF ndF TF) (hG : PrC z h aG ndG TG) (hwF : wfP TF) (hwG : wfP TG) (hM : MeetW TF TG W) (hok : PlaceOK TF TG W a b l0 l1) (hmF : mt + 8 ≤ aF) (hmG : mt + 8 ≤ aG) (hn1 : nr = 1 ∨ nr = 2) (htk : tkn = if l1 = 0 then 0 else 1) : Met l yX4_moveOf wsX4_moveOf rmX4_moveOf (KP D vwCl B lo hi h (ty6 z) [.ref mt, .int 0, .int tkn, .int steps]) (KQi D vwCl B lo (ty6 z) (fun r hi' h' => hi' = hi ∧ (∀ q, (q < mt ∨ mt + 8 ≤ q) → h' q = h q) ∧ MtX z h' mt cm aF aG nr TF TG W a b l0 l1 ∧ (r = 1 ∨ (r = 0 ∧ l1 = 0 ∧ (l0 = 0 → ¬ pK TF a = 1 ∧ ¬ pK TF a = 3))))) 0 0 (fun q => lo ≤ q) := by
  obtain ⟨fo, most, over, pl, mv, sl, ft, tk, ats, lns, q0, q1, q2, q3, q4, q5, q6, q7, hfo, hov, hk0, hk1, hta, htb, hz0, hz1, hpl, hft⟩ := id hX
  have hwF1 := hwF.1
  have hwG1 := hwG.1
  obtain ⟨ha, hb, hl0, hl1, hm0, hm1⟩ := hok.bnd hwF hwG hM
  refine ax_met (by decide) rfl (Nat.le_of_ble_eq_true rfl) (L0 := [(0, .ref mt), (1, .int 0), (2, .int tkn), (3, .int steps)]) rfl ?_
  intro p e s m args below meth c hC hr hlocks hnm hargs
  have iX4 : ∀ w ∈ u_ws RX4 TX4 15, w ∈ wsX4_moveOf := by decide +kernel
  have LP : ∀ (n t : Nat) (hX1 : Nat → Option va_E), t + n = 26 → (pK TF a = 1 ∨ pK TF a = 3) → l1 = 0 → l0 < 128 → PlaceOK TF TG W a b l0 0 → (∀ q, (q < mt ∨ mt + 8 ≤ q) → hX1 q = h q) → MtX z hX1 mt cm aF aG nr TF TG W a b l0 l1 → Gx p l e rmX4_moveOf s m args below meth c D vwCl B lo 9 (MQ below (KQi D vwCl B lo (ty6 z) (fun r hi' h' => hi' = hi ∧ (∀ q, (q < mt ∨ mt + 8 ≤ q) → h' q = h q) ∧ MtX z h' mt cm aF aG nr TF TG W a b l0 l1 ∧ (r = 1 ∨ (r = 0 ∧ l1 = 0 ∧ (l0 = 0 → ¬ pK TF a = 1 ∧ ¬ pK TF a = 3))))) args s 0 0 (fun q => lo ≤ q)) hi hX1 0 0 [(8, .int (nI t)), (7, .int (nI (2 ^ nlab TF a - 1))), (6, .int (pK TF a)), (5, .int (nI a)), (4, .ref aF), (3, .int steps), (2, .int tkn), (1, .int 0), (0, .ref mt)] 150 [] := by
    intro n
    induction n with
    | zero =>
      intro t hX1 htn hK13 hl hsm hokz hfr hXX
      obtain ⟨foy, mosty, overy, ply, mvy, sly, fty, tky, atsy, lnsy, q0y, q1y, q2y, q3y, q4y, q5y, q6y, q7y, hfoy, hovy, hk0y, hk1y, htay, htby, hz0y, hz1y, hply, hfty⟩ := id hXX
      have hFX : PrC z hX1 aF _ TF := hF.kept (fun q _ _ => hfr q (by omega))
      have hGX : PrC z hX1 aG _ TG := hG.kept (fun q _ _ => hfr q (by omega))
      refine ax_iload hC 0 dX4_moveOf_150 rfl ?_
      refine ax_bipush (v := 26) hC dX4_moveOf_152 (by decide) ?_
      refine ax_icmp_ge (tgt := 198) hC dX4_moveOf_154 (by decide) (fun c1001 => ?_) (fun c1001 => ?_)
      · refine ax_iconst (v := 1) hC dX4_moveOf_198 (by decide) ?_
        refine ax_zret hC hr hlocks dX4_moveOf_199 (by decide) ?_
        exact ⟨rfl, fun q hq => (hfr q hq), ⟨_, _, _, _, _, _, _, _, _, _, q0y, q1y, q2y, q3y, q4y, q5y, q6y, q7y, hfoy, hovy, hk0y, hk1y, htay, htby, hz0y, hz1y, hply, hfty⟩, Or.inl rfl⟩
      · exact absurd (by rw [L_leN (k := 26) (by decide) (by omega)]; omega) c1001
    | succ n ih =>
      intro t hX1 htn hK13 hl hsm hokz hfr hXX
      obtain ⟨foy, mosty, overy, ply, mvy, sly, fty, tky, atsy, lnsy, q0y, q1y, q2y, q3y, q4y, q5y, q6y, q7y, hfoy, hovy, hk0y, hk1y, htay, htby, hz0y, hz1y, hply, hfty⟩ := id hXX
      have hFX : PrC z hX1 aF _ TF := hF.kept (fun q _ _ => hfr q (by omega))
      have hGX : PrC z hX1 aG _ TG := hG.kept (fun q _ _ => hfr q (by omega))
      by_cases ht : t < nlab TF a
      · have hK3 : pK TF a = 3 := hK13.elim (fun q9 => by have q8 := (hwF.2.2.2.2.2 a ha).2 (by rw [q9]; decide); exact absurd (show nlab TF a = 0 by rw [nlab, q8]; decide) (by omega)) id
        have hK12 : ¬ (pK TF a = 1 ∨ pK TF a = 2) := by rintro (q9 | q9) <;> exact k_ne hK3 q9 (by decide)
        refine ax_iload hC 0 dX4_moveOf_150 rfl ?_
        refine ax_bipush (v := 26) hC dX4_moveOf_152 (by decide) ?_
        refine ax_icmp_ge (tgt := 198) hC dX4_moveOf_154 (by decide) (fun c2001 => ?_) (fun c2001 => ?_)
        · refine ax_iconst (v := 1) hC dX4_moveOf_198 (by decide) ?_
          refine ax_zret hC hr hlocks dX4_moveOf_199 (by decide) ?_
          exact ⟨rfl, fun q hq => (hfr q hq), ⟨_, _, _, _, _, _, _, _, _, _, q0y, q1y, q2y, q3y, q4y, q5y, q6y, q7y, hfoy, hovy, hk0y, hk1y, htay, htby, hz0y, hz1y, hply, hfty⟩, Or.inl rfl⟩
        · refine ax_iload hC 1 dX4_moveOf_157 rfl ?_
          refine ax_iload hC 0 dX4_moveOf_159 rfl ?_
          refine ax_ishr hC dX4_moveOf_161 ?_
          refine ax_iconst (v := 1) hC dX4_moveOf_162 (by decide) ?_
          refine ax_iand hC dX4_moveOf_163 ?_
          refine ax_eqi (y := 1) ((lab_bit _ (nlab_eq hwF ha).2 t (by omega)).trans (if_pos ht)) ?_
          refine ax_if_ne (tgt := 170) hC dX4_moveOf_164 (by decide) (fun c2002 => ?_) (fun c2002 => ?_)
          · refine ax_aload_n hC 8 dX4_moveOf_170 rfl rfl ?_
            refine ax_iload_n hC 7 dX4_moveOf_171 rfl rfl ?_
            refine ax_iconst (v := 1) hC dX4_moveOf_172 (by decide) ?_
            refine ax_iand hC dX4_moveOf_173 ?_
            refine ax_eqi (y := 0) (by decide) ?_
            refine ax_aload hC 4 dX4_moveOf_174 rfl ?_
            refine ax_iload hC 3 dX4_moveOf_176 rfl ?_
            refine ax_iload hC 0 dX4_moveOf_178 rfl ?_
            refine ax_callVp (st := [.int 0, .ref mt]) hC [.int (nI a), .int (nI t)] hFX.1 rfl (c_X7_behind l D z B lo _ hX1 aF _ TF (nI a) (nI t) hFX hwF.1 (by rw [nI_toInt (by omega)]; omega)) (cwV 2 hC.1.2.2.2.2 gX4_moveOf_X7_behind rfl rfl rfl (by decide +kernel) ⟨Nat.le_of_ble_eq_true rfl, Nat.le_of_ble_eq_true rfl⟩) rfl rfl (Nat.le_of_ble_eq_true rfl) dX4_moveOf_180 ⟨Nat.le_of_ble_eq_true rfl, Nat.le_of_ble_eq_true rfl⟩ (fun r2003 er2004 => ?_)
            subst er2004
            refine ax_eqi (y := nI (stp TF a t)) (behf_lab hwF ha hK12 ht) ?_
            refine ax_bipush (v := 61) hC dX4_moveOf_183 (by decide) ?_
            refine ax_iload hC 0 dX4_moveOf_185 rfl ?_
            refine ax_iadd hC dX4_moveOf_187 ?_
            refine ax_eqi (y := nI (61 + t)) (nI_add 61 t) ?_
            refine ax_iload_n hC 5 dX4_moveOf_188 rfl rfl ?_
            have hX2005 : MtX z hX1 mt cm aF aG nr TF TG W a b l0 l1 := ⟨_, _, _, _, _, _, _, _, _, _, q0y, q1y, q2y, q3y, q4y, q5y, q6y, q7y, hfoy, hovy, hk0y, hk1y, htay, htby, hz0y, hz1y, hply, hfty⟩
            have hs2006 : PlaceOK TF TG W (stp TF a t) b (if l0 = 0 then (61 + t) else l0 + 128 * (61 + t)) 0 := PlaceOK.send0 hwF hwG hM hokz (Or.inr ⟨hK3, t, ht, rfl, rfl⟩) hsm
            have hs2007 : PlaceOK TF TG W (stp TF a t) b (if l0 = 0 then (61 + t) else l0 + 128 * (61 + t)) l1 := by have q9 := hs2006; rw [hl]; exact q9
            have hs2008 := PlaceOK.bnd hwF hwG hM hs2007
            refine ax_callVv (st := []) hC [.int 0, .int (nI (stp TF a t)), .int (nI (61 + t)), .int steps] q0y rfl (c_X4_send_0 l D z B lo _ hX1 mt cm aF aG nr TF TG W a b l0 l1 (stp TF a t) (if l0 = 0 then (61 + t) else l0 + 128 * (61 + t)) (61 + t) steps hX2005 hs2007 rfl hsm (Nat.lt_of_lt_of_le hs2008.1 (by omega)) (Nat.lt_of_lt_of_le hs2008.2.1 (by omega)) hs2008.2.2.1 hs2008.2.2.2.1) (cwV 4 hC.1.2.2.2.2 gX4_moveOf_X4_send rfl rfl rfl (by decide +kernel) ⟨Nat.le_of_ble_eq_true rfl, Nat.le_of_ble_eq_true rfl⟩) rfl rfl (Nat.le_of_ble_eq_true rfl) dX4_moveOf_189 ⟨Nat.le_of_ble_eq_true rfl, Nat.le_of_ble_eq_true rfl⟩ (fun hi2009 h2010 hp2011 => ?_)
            obtain ⟨ei2012, fr2013, hX2014⟩ := hp2011
            replace ei2012 := ei2012.symm
            subst ei2012
            have hp_2015 : PrC z h2010 aF _ TF := hFX.kept (fun q _ _ => fr2013 q (by omega))
            have hp_2016 : PrC z h2010 aG _ TG := hGX.kept (fun q _ _ => fr2013 q (by omega))
            obtain ⟨fo_2017, most_2017, over_2017, pl_2017, mv_2017, sl_2017, ft_2017, tk_2017, ats_2017, lns_2017, q0_2017, q1_2017, q2_2017, q3_2017, q4_2017, q5_2017, q6_2017, q7_2017, hfo_2017, hov_2017, hk0_2017, hk1_2017, hta_2017, htb_2017, hz0_2017, hz1_2017, hpl_2017, hft_2017⟩ := id hX2014
            refine ax_iinc (v := (nI t) + 1) hC 0 [(8, .int ((nI t) + 1)), (7, .int (nI (2 ^ nlab TF a - 1))), (6, .int (pK TF a)), (5, .int (nI a)), (4, .ref aF), (3, .int steps), (2, .int tkn), (1, .int 0), (0, .ref mt)] dX4_moveOf_192 rfl rfl (by decide) rfl ?_
            refine ax_goto (tgt := 150) hC dX4_moveOf_195 (by decide) ?_
            refine ax_locals [0, 1, 2, 3, 4, 5, 6, 7, 8] (L' := [(8, .int ((nI t) + 1)), (7, .int (nI (2 ^ nlab TF a - 1))), (6, .int (pK TF a)), (5, .int (nI a)), (4, .ref aF), (3, .int steps), (2, .int tkn), (1, .int 0), (0, .ref mt)]) rfl ?_
            rw [show (nI t + 1) = nI (t + 1) from nI_1 t]
            exact ih (t + 1) h2010 (by omega) hK13 hl hsm hokz (fun q hq => ((fr2013 q (by omega)).trans (hfr q hq))) ⟨_, _, _, _, _, _, _, _, _, _, q0_2017, q1_2017, q2_2017, q3_2017, q4_2017, q5_2017, q6_2017, q7_2017, hfo_2017, hov_2017, hk0_2017, hk1_2017, hta_2017, htb_2017, hz0_2017, hz1_2017, hpl_2017, hft_2017⟩
          · exact absurd c2002 (by decide)
      · refine ax_iload hC 0 dX4_moveOf_150 rfl ?_
        refine ax_bipush (v := 26) hC dX4_moveOf_152 (by decide) ?_
        refine ax_icmp_ge (tgt := 198) hC dX4_moveOf_154 (by decide) (fun c2019 => ?_) (fun c2019 => ?_)
        · refine ax_iconst (v := 1) hC dX4_moveOf_198 (by decide) ?_
          refine ax_zret hC hr hlocks dX4_moveOf_199 (by decide) ?_
          exact ⟨rfl, fun q hq => (hfr q hq), ⟨_, _, _, _, _, _, _, _, _, _, q0y, q1y, q2y, q3y, q4y, q5y, q6y, q7y, hfoy, hovy, hk0y, hk1y, htay, htby, hz0y, hz1y, hply, hfty⟩, Or.inl rfl⟩
        · refine ax_iload hC 1 dX4_moveOf_157 rfl ?_
          refine ax_iload hC 0 dX4_moveOf_159 rfl ?_
          refine ax_ishr hC dX4_moveOf_161 ?_
          refine ax_iconst (v := 1) hC dX4_moveOf_162 (by decide) ?_
          refine ax_iand hC dX4_moveOf_163 ?_
          refine ax_eqi (y := 0) ((lab_bit _ (nlab_eq hwF ha).2 t (by omega)).trans (if_neg ht)) ?_
          refine ax_if_ne (tgt := 170) hC dX4_moveOf_164 (by decide) (fun c2020 => ?_) (fun c2020 => ?_)
          · exact absurd c2020 (by decide)
          · refine ax_goto (tgt := 192) hC dX4_moveOf_167 (by decide) ?_
            refine ax_iinc (v := (nI t) + 1) hC 0 [(8, .int ((nI t) + 1)), (7, .int (nI (2 ^ nlab TF a - 1))), (6, .int (pK TF a)), (5, .int (nI a)), (4, .ref aF), (3, .int steps), (2, .int tkn), (1, .int 0), (0, .ref mt)] dX4_moveOf_192 rfl rfl (by decide) rfl ?_
            refine ax_goto (tgt := 150) hC dX4_moveOf_195 (by decide) ?_
            refine ax_locals [0, 1, 2, 3, 4, 5, 6, 7, 8] (L' := [(8, .int ((nI t) + 1)), (7, .int (nI (2 ^ nlab TF a - 1))), (6, .int (pK TF a)), (5, .int (nI a)), (4, .ref aF), (3, .int steps), (2, .int tkn), (1, .int 0), (0, .ref mt)]) rfl ?_
            rw [show (nI t + 1) = nI (t + 1) from nI_1 t]
            exact ih (t + 1) hX1 (by omega) hK13 hl hsm hokz (fun q hq => (hfr q hq)) ⟨_, _, _, _, _, _, _, _, _, _, q0y, q1y, q2y, q3y, q4y, q5y, q6y, q7y, hfoy, hovy, hk0y, hk1y, htay, htby, hz0y, hz1y, hply, hfty⟩
  refine ax_aload_n hC 0 dX4_moveOf_0 rfl rfl ?_
  refine ax_getf (v := .ref (mt + 5)) hC q0 iX4 rfl 10 (by decide) (by decide +kernel) rfl rfl dX4_moveOf_1 ?_
  refine ax_iload_n hC 1 dX4_moveOf_4 rfl rfl ?_
  refine ax_iconst (v := 1) hC dX4_moveOf_5 (by decide) ?_
  refine ax_iand hC dX4_moveOf_6 ?_
  refine ax_eqi (y := 0) (by decide) ?_
  have b1 : vp_in 0 2 := vp_in_iff.mpr (by decide)
  refine ax_aald hC q5 5 rfl b1 dX4_moveOf_7 ?_
  refine ax_eqq (y := some aF) (hk0) ?_
  refine ax_astore hC [(4, .ref aF), (0, .ref mt), (1, .int 0), (2, .int tkn), (3, .int steps)] dX4_moveOf_8 (by decide) rfl ?_
  refine ax_aload hC 0 dX4_moveOf_10 rfl ?_
  refine ax_ifnonnull (tgt := 17) hC dX4_moveOf_12 (by decide) ?_
  refine ax_aload_n hC 1 dX4_moveOf_17 rfl rfl ?_
  refine ax_getf (v := .ref (mt + 6)) hC q0 iX4 rfl 11 (by decide) (by decide +kernel) rfl rfl dX4_moveOf_18 ?_
  refine ax_iload_n hC 2 dX4_moveOf_21 rfl rfl ?_
  refine ax_iconst (v := 1) hC dX4_moveOf_22 (by decide) ?_
  refine ax_iand hC dX4_moveOf_23 ?_
  refine ax_eqi (y := 0) (by decide) ?_
  have b2 : vp_in 0 2 := vp_in_iff.mpr (by decide)
  refine ax_iald hC q6 1 rfl b2 dX4_moveOf_24 ?_
  refine ax_eqi (y := nI a) (hta) ?_
  refine ax_istore hC [(5, .int (nI a)), (4, .ref aF), (0, .ref mt), (1, .int 0), (2, .int tkn), (3, .int steps)] dX4_moveOf_25 (by decide) rfl ?_
  refine ax_aload hC 1 dX4_moveOf_27 rfl ?_
  refine ax_iload hC 0 dX4_moveOf_29 rfl ?_
  refine ax_callVp (st := []) hC [.int (nI a)] hF.1 rfl (c_X7_kindOf l D z B lo _ h aF _ TF (nI a) hF hwF.1) (cwV 1 hC.1.2.2.2.2 gX4_moveOf_X7_kindOf rfl rfl rfl (by decide +kernel) ⟨Nat.le_of_ble_eq_true rfl, Nat.le_of_ble_eq_true rfl⟩) rfl rfl (Nat.le_of_ble_eq_true rfl) dX4_moveOf_31 ⟨Nat.le_of_ble_eq_true rfl, Nat.le_of_ble_eq_true rfl⟩ (fun r3 er4 => ?_)
  subst er4
  refine ax_eqi (y := pK TF a) (rd_nat ha (by omega)) ?_
  refine ax_istore hC [(6, .int (pK TF a)), (5, .int (nI a)), (4, .ref aF), (0, .ref mt), (1, .int 0), (2, .int tkn), (3, .int steps)] dX4_moveOf_34 (by decide) rfl ?_
  refine ax_aload hC 2 dX4_moveOf_36 rfl ?_
  refine ax_iload hC 1 dX4_moveOf_38 rfl ?_
  refine ax_callVp (st := []) hC [.int (nI a)] hF.1 rfl (c_X7_labelsOf l D z B lo _ h aF _ TF (nI a) hF hwF.1) (cwV 1 hC.1.2.2.2.2 gX4_moveOf_X7_labelsOf rfl rfl rfl (by decide +kernel) ⟨Nat.le_of_ble_eq_true rfl, Nat.le_of_ble_eq_true rfl⟩) rfl rfl (Nat.le_of_ble_eq_true rfl) dX4_moveOf_40 ⟨Nat.le_of_ble_eq_true rfl, Nat.le_of_ble_eq_true rfl⟩ (fun r5 er6 => ?_)
  subst er6
  refine ax_eqi (y := nI (2 ^ nlab TF a - 1)) ((rd_nat ha (by omega)).trans (nlab_eq hwF ha).1) ?_
  refine ax_istore hC [(7, .int (nI (2 ^ nlab TF a - 1))), (6, .int (pK TF a)), (5, .int (nI a)), (4, .ref aF), (0, .ref mt), (1, .int 0), (2, .int tkn), (3, .int steps)] dX4_moveOf_43 (by decide) rfl ?_
  refine ax_iload_n hC 6 dX4_moveOf_45 rfl rfl ?_
  refine ax_iconst (v := 1) hC dX4_moveOf_46 (by decide) ?_
  refine ax_icmp_ne (tgt := 89) hC dX4_moveOf_47 (by decide) (fun c7 => ?_) (fun c7 => ?_)
  · have hl : l1 = 0 := Decidable.byContradiction (fun q9 => c7 (by rw [htk, if_neg q9]))
    have hokz : PlaceOK TF TG W a b l0 0 := by have q9 := hok; rw [hl] at q9; exact q9
    refine ax_iload hC 1 dX4_moveOf_89 rfl ?_
    refine ax_iconst (v := 1) hC dX4_moveOf_91 (by decide) ?_
    refine ax_icmp_eq (tgt := 101) hC dX4_moveOf_92 (by decide) (fun c8 => ?_) (fun c8 => ?_)
    · refine ax_aload_n hC 4 dX4_moveOf_101 rfl rfl ?_
      refine ax_getf (v := .ref (mt + 7)) hC q0 iX4 rfl 12 (by decide) (by decide +kernel) rfl rfl dX4_moveOf_102 ?_
      refine ax_iload_n hC 5 dX4_moveOf_105 rfl rfl ?_
      refine ax_iconst (v := 1) hC dX4_moveOf_106 (by decide) ?_
      refine ax_iand hC dX4_moveOf_107 ?_
      refine ax_eqi (y := 0) (by decide) ?_
      have b9 : vp_in 0 2 := vp_in_iff.mpr (by decide)
      refine ax_iald hC q7 1 rfl b9 dX4_moveOf_108 ?_
      refine ax_eqi (y := nI l0) (hz0) ?_
      refine ax_callSp (st := []) hC [.int (nI l0)] (c_X4_lying l D z B lo _ h (nI l0)) (va_cwS 1 hC.1.2.2.2.2 gX4_moveOf_X4_lying rfl rfl rfl (by decide +kernel) ⟨Nat.le_of_ble_eq_true rfl, Nat.le_of_ble_eq_true rfl⟩) rfl rfl (Nat.le_of_ble_eq_true rfl) dX4_moveOf_109 ⟨Nat.le_of_ble_eq_true rfl, Nat.le_of_ble_eq_true rfl⟩ (fun r10 er11 => ?_)
      subst er11
      refine ax_aload_n hC 4 dX4_moveOf_112 rfl rfl ?_
      refine ax_getf (v := .int nr) hC q0 iX4 rfl 13 (by decide) (by decide +kernel) rfl rfl dX4_moveOf_113 ?_
      refine ax_icmp_lt (tgt := 121) hC dX4_moveOf_116 (by decide) (fun c12 => ?_) (fun c12 => ?_)
      · have hsm : l0 < 128 := Decidable.byContradiction (fun q9 => by have c9 := c12; rw [lyf_nI l0 (by omega), if_neg (by omega), if_neg q9] at c9; rcases hn1 with e9 | e9 <;> rw [e9] at c9 <;> exact absurd c9 (by decide))
        have hK13 : pK TF a = 1 ∨ pK TF a = 3 := Or.inl c8
        refine ax_iload hC 1 dX4_moveOf_121 rfl ?_
        refine ax_iconst (v := 1) hC dX4_moveOf_123 (by decide) ?_
        refine ax_icmp_ne (tgt := 147) hC dX4_moveOf_124 (by decide) (fun c13 => ?_) (fun c13 => ?_)
        · exact absurd c8 c13
        · refine ax_aload_n hC 4 dX4_moveOf_127 rfl rfl ?_
          refine ax_iload_n hC 5 dX4_moveOf_128 rfl rfl ?_
          refine ax_iconst (v := 1) hC dX4_moveOf_129 (by decide) ?_
          refine ax_iand hC dX4_moveOf_130 ?_
          refine ax_eqi (y := 0) (by decide) ?_
          refine ax_aload hC 3 dX4_moveOf_131 rfl ?_
          refine ax_iload hC 2 dX4_moveOf_133 rfl ?_
          refine ax_iconst (v := 0) hC dX4_moveOf_135 (by decide) ?_
          refine ax_callVp (st := [.int 0, .ref mt]) hC [.int (nI a), .int 0] hF.1 rfl (c_X7_stepOf l D z B lo _ h aF _ TF (nI a) 0 hF hwF.1 (by rw [nI_toInt (by omega)]; omega)) (cwV 2 hC.1.2.2.2.2 gX4_moveOf_X7_stepOf rfl rfl rfl (by decide +kernel) ⟨Nat.le_of_ble_eq_true rfl, Nat.le_of_ble_eq_true rfl⟩) rfl rfl (Nat.le_of_ble_eq_true rfl) dX4_moveOf_136 ⟨Nat.le_of_ble_eq_true rfl, Nat.le_of_ble_eq_true rfl⟩ (fun r14 er15 => ?_)
          subst er15
          refine ax_eqi (y := nI (stp TF a 0)) ((stp_eq hwF a 0).1) ?_
          refine ax_iconst (v := 1) hC dX4_moveOf_139 (by decide) ?_
          refine ax_iload hC 2 dX4_moveOf_140 rfl ?_
          refine ax_iadd hC dX4_moveOf_142 ?_
          refine ax_eqi (y := nI (1 + a)) (nI_add 1 a) ?_
          refine ax_iload_n hC 7 dX4_moveOf_143 rfl rfl ?_
          have hX16 : MtX z h mt cm aF aG nr TF TG W a b l0 l1 := ⟨_, _, _, _, _, _, _, _, _, _, q0, q1, q2, q3, q4, q5, q6, q7, hfo, hov, hk0, hk1, hta, htb, hz0, hz1, hpl, hft⟩
          have hs17 : PlaceOK TF TG W (stp TF a 0) b (if l0 = 0 then (1 + a) else l0 + 128 * (1 + a)) 0 := PlaceOK.send0 hwF hwG hM hokz (Or.inl ⟨c8, rfl, rfl⟩) hsm
          have hs18 : PlaceOK TF TG W (stp TF a 0) b (if l0 = 0 then (1 + a) else l0 + 128 * (1 + a)) l1 := by have q9 := hs17; rw [hl]; exact q9
          have hs19 := PlaceOK.bnd hwF hwG hM hs18
          refine ax_callVv (st := []) hC [.int 0, .int (nI (stp TF a 0)), .int (nI (1 + a)), .int steps] q0 rfl (c_X4_send_0 l D z B lo _ h mt cm aF aG nr TF TG W a b l0 l1 (stp TF a 0) (if l0 = 0 then (1 + a) else l0 + 128 * (1 + a)) (1 + a) steps hX16 hs18 rfl hsm (Nat.lt_of_lt_of_le hs19.1 (by omega)) (Nat.lt_of_lt_of_le hs19.2.1 (by omega)) hs19.2.2.1 hs19.2.2.2.1) (cwV 4 hC.1.2.2.2.2 gX4_moveOf_X4_send rfl rfl rfl (by decide +kernel) ⟨Nat.le_of_ble_eq_true rfl, Nat.le_of_ble_eq_true rfl⟩) rfl rfl (Nat.le_of_ble_eq_true rfl) dX4_moveOf_144 ⟨Nat.le_of_ble_eq_true rfl, Nat.le_of_ble_eq_true rfl⟩ (fun hi20 h21 hp22 => ?_)
          obtain ⟨ei23, fr24, hX25⟩ := hp22
          replace ei23 := ei23.symm
          subst ei23
          have hp_26 : PrC z h21 aF _ TF := hF.kept (fun q _ _ => fr24 q (by omega))
          have hp_27 : PrC z h21 aG _ TG := hG.kept (fun q _ _ => fr24 q (by omega))
          obtain ⟨fo_28, most_28, over_28, pl_28, mv_28, sl_28, ft_28, tk_28, ats_28, lns_28, q0_28, q1_28, q2_28, q3_28, q4_28, q5_28, q6_28, q7_28, hfo_28, hov_28, hk0_28, hk1_28, hta_28, htb_28, hz0_28, hz1_28, hpl_28, hft_28⟩ := id hX25
          refine ax_iconst (v := 0) hC dX4_moveOf_147 (by decide) ?_
          refine ax_istore hC [(8, .int 0), (7, .int (nI (2 ^ nlab TF a - 1))), (6, .int (pK TF a)), (5, .int (nI a)), (4, .ref aF), (0, .ref mt), (1, .int 0), (2, .int tkn), (3, .int steps)] dX4_moveOf_148 (by decide) rfl ?_
          refine ax_locals [0, 1, 2, 3, 4, 8, 7, 6, 5] (L' := [(8, .int 0), (7, .int (nI (2 ^ nlab TF a - 1))), (6, .int (pK TF a)), (5, .int (nI a)), (4, .ref aF), (3, .int steps), (2, .int tkn), (1, .int 0), (0, .ref mt)]) rfl ?_
          exact LP 26 0 h21 (by omega) hK13 hl hsm hokz (fun q hq => (fr24 q (by omega))) ⟨_, _, _, _, _, _, _, _, _, _, q0_28, q1_28, q2_28, q3_28, q4_28, q5_28, q6_28, q7_28, hfo_28, hov_28, hk0_28, hk1_28, hta_28, htb_28, hz0_28, hz1_28, hpl_28, hft_28⟩
      · refine ax_iconst (v := 0) hC dX4_moveOf_119 (by decide) ?_
        refine ax_zret hC hr hlocks dX4_moveOf_120 (by decide) ?_
        exact ⟨rfl, fun q hq => rfl, ⟨_, _, _, _, _, _, _, _, _, _, q0, q1, q2, q3, q4, q5, q6, q7, hfo, hov, hk0, hk1, hta, htb, hz0, hz1, hpl, hft⟩, Or.inr ⟨rfl, hl, fun q9 => absurd (by rw [q9]; rcases hn1 with e9 | e9 <;> rw [e9] <;> decide) c12⟩⟩
    · refine ax_iload hC 1 dX4_moveOf_95 rfl ?_
      refine ax_iconst (v := 3) hC dX4_moveOf_97 (by decide) ?_
      refine ax_icmp_ne (tgt := 119) hC dX4_moveOf_98 (by decide) (fun c29 => ?_) (fun c29 => ?_)
      · refine ax_iconst (v := 0) hC dX4_moveOf_119 (by decide) ?_
        refine ax_zret hC hr hlocks dX4_moveOf_120 (by decide) ?_
        exact ⟨rfl, fun q hq => rfl, ⟨_, _, _, _, _, _, _, _, _, _, q0, q1, q2, q3, q4, q5, q6, q7, hfo, hov, hk0, hk1, hta, htb, hz0, hz1, hpl, hft⟩, Or.inr ⟨rfl, hl, fun _ => ⟨c8, c29⟩⟩⟩
      · refine ax_aload_n hC 4 dX4_moveOf_101 rfl rfl ?_
        refine ax_getf (v := .ref (mt + 7)) hC q0 iX4 rfl 12 (by decide) (by decide +kernel) rfl rfl dX4_moveOf_102 ?_
        refine ax_iload_n hC 5 dX4_moveOf_105 rfl rfl ?_
        refine ax_iconst (v := 1) hC dX4_moveOf_106 (by decide) ?_
        refine ax_iand hC dX4_moveOf_107 ?_
        refine ax_eqi (y := 0) (by decide) ?_
        have b30 : vp_in 0 2 := vp_in_iff.mpr (by decide)
        refine ax_iald hC q7 1 rfl b30 dX4_moveOf_108 ?_
        refine ax_eqi (y := nI l0) (hz0) ?_
        refine ax_callSp (st := []) hC [.int (nI l0)] (c_X4_lying l D z B lo _ h (nI l0)) (va_cwS 1 hC.1.2.2.2.2 gX4_moveOf_X4_lying rfl rfl rfl (by decide +kernel) ⟨Nat.le_of_ble_eq_true rfl, Nat.le_of_ble_eq_true rfl⟩) rfl rfl (Nat.le_of_ble_eq_true rfl) dX4_moveOf_109 ⟨Nat.le_of_ble_eq_true rfl, Nat.le_of_ble_eq_true rfl⟩ (fun r31 er32 => ?_)
        subst er32
        refine ax_aload_n hC 4 dX4_moveOf_112 rfl rfl ?_
        refine ax_getf (v := .int nr) hC q0 iX4 rfl 13 (by decide) (by decide +kernel) rfl rfl dX4_moveOf_113 ?_
        refine ax_icmp_lt (tgt := 121) hC dX4_moveOf_116 (by decide) (fun c33 => ?_) (fun c33 => ?_)
        · have hsm : l0 < 128 := Decidable.byContradiction (fun q9 => by have c9 := c33; rw [lyf_nI l0 (by omega), if_neg (by omega), if_neg q9] at c9; rcases hn1 with e9 | e9 <;> rw [e9] at c9 <;> exact absurd c9 (by decide))
          have hK13 : pK TF a = 1 ∨ pK TF a = 3 := Or.inr c29
          refine ax_iload hC 1 dX4_moveOf_121 rfl ?_
          refine ax_iconst (v := 1) hC dX4_moveOf_123 (by decide) ?_
          refine ax_icmp_ne (tgt := 147) hC dX4_moveOf_124 (by decide) (fun c34 => ?_) (fun c34 => ?_)
          · refine ax_iconst (v := 0) hC dX4_moveOf_147 (by decide) ?_
            refine ax_istore hC [(8, .int 0), (7, .int (nI (2 ^ nlab TF a - 1))), (6, .int (pK TF a)), (5, .int (nI a)), (4, .ref aF), (0, .ref mt), (1, .int 0), (2, .int tkn), (3, .int steps)] dX4_moveOf_148 (by decide) rfl ?_
            refine ax_locals [0, 1, 2, 3, 4, 8, 7, 6, 5] (L' := [(8, .int 0), (7, .int (nI (2 ^ nlab TF a - 1))), (6, .int (pK TF a)), (5, .int (nI a)), (4, .ref aF), (3, .int steps), (2, .int tkn), (1, .int 0), (0, .ref mt)]) rfl ?_
            exact LP 26 0 h (by omega) hK13 hl hsm hokz (fun q hq => rfl) ⟨_, _, _, _, _, _, _, _, _, _, q0, q1, q2, q3, q4, q5, q6, q7, hfo, hov, hk0, hk1, hta, htb, hz0, hz1, hpl, hft⟩
          · exact absurd (c29.symm.trans c34) (by decide)
        · refine ax_iconst (v := 0) hC dX4_moveOf_119 (by decide) ?_
          refine ax_zret hC hr hlocks dX4_moveOf_120 (by decide) ?_
          exact ⟨rfl, fun q hq => rfl, ⟨_, _, _, _, _, _, _, _, _, _, q0, q1, q2, q3, q4, q5, q6, q7, hfo, hov, hk0, hk1, hta, htb, hz0, hz1, hpl, hft⟩, Or.inr ⟨rfl, hl, fun q9 => absurd (by rw [q9]; rcases hn1 with e9 | e9 <;> rw [e9] <;> decide) c33⟩⟩
  · have hl : ¬ l1 = 0 := fun q9 => by rw [htk, if_pos q9] at c7; exact absurd c7 (by decide)
    obtain ⟨-, an, hbeh, hok1⟩ := (hok.take0 hwF hwG hM hl)
    have hok2 := hok1
    obtain ⟨ha2, hb2, hc2, hd2, -, -⟩ := PlaceOK.bnd hwF hwG hM hok2
    refine ax_aload_n hC 4 dX4_moveOf_50 rfl rfl ?_
    refine ax_getf (v := .ref (mt + 7)) hC q0 iX4 rfl 12 (by decide) (by decide +kernel) rfl rfl dX4_moveOf_51 ?_
    refine ax_iconst (v := 1) hC dX4_moveOf_54 (by decide) ?_
    refine ax_iload_n hC 5 dX4_moveOf_55 rfl rfl ?_
    refine ax_isub hC dX4_moveOf_56 ?_
    refine ax_eqi (y := 1) (by decide) ?_
    refine ax_iconst (v := 1) hC dX4_moveOf_57 (by decide) ?_
    refine ax_iand hC dX4_moveOf_58 ?_
    refine ax_eqi (y := 1) (by decide) ?_
    have b35 : vp_in 1 2 := vp_in_iff.mpr (by decide)
    refine ax_iald hC q7 1 rfl b35 dX4_moveOf_59 ?_
    refine ax_eqi (y := nI l1) (hz1) ?_
    refine ax_bipush (v := 127) hC dX4_moveOf_60 (by decide) ?_
    refine ax_iand hC dX4_moveOf_62 ?_
    refine ax_eqi (y := nI (l1 % 128)) (i32_and l1 7) ?_
    refine ax_iconst (v := 1) hC dX4_moveOf_63 (by decide) ?_
    refine ax_isub hC dX4_moveOf_64 ?_
    refine ax_bipush (v := 60) hC dX4_moveOf_65 (by decide) ?_
    refine ax_isub hC dX4_moveOf_67 ?_
    refine ax_istore hC [(8, .int (((nI (l1 % 128)) - 1) - 60)), (7, .int (nI (2 ^ nlab TF a - 1))), (6, .int (pK TF a)), (5, .int (nI a)), (4, .ref aF), (0, .ref mt), (1, .int 0), (2, .int tkn), (3, .int steps)] dX4_moveOf_68 (by decide) rfl ?_
    refine ax_aload_n hC 5 dX4_moveOf_70 rfl rfl ?_
    refine ax_iload_n hC 6 dX4_moveOf_71 rfl rfl ?_
    refine ax_iconst (v := 1) hC dX4_moveOf_72 (by decide) ?_
    refine ax_iand hC dX4_moveOf_73 ?_
    refine ax_eqi (y := 0) (by decide) ?_
    refine ax_aload hC 4 dX4_moveOf_74 rfl ?_
    refine ax_iload hC 3 dX4_moveOf_76 rfl ?_
    refine ax_iload hC 0 dX4_moveOf_78 rfl ?_
    refine ax_callVp (st := [.int 0, .ref mt]) hC [.int (nI a), .int (((nI (l1 % 128)) - 1) - 60)] hF.1 rfl (c_X7_behind l D z B lo _ h aF _ TF (nI a) (((nI (l1 % 128)) - 1) - 60) hF hwF.1 (by rw [nI_toInt (by omega)]; omega)) (cwV 2 hC.1.2.2.2.2 gX4_moveOf_X7_behind rfl rfl rfl (by decide +kernel) ⟨Nat.le_of_ble_eq_true rfl, Nat.le_of_ble_eq_true rfl⟩) rfl rfl (Nat.le_of_ble_eq_true rfl) dX4_moveOf_80 ⟨Nat.le_of_ble_eq_true rfl, Nat.le_of_ble_eq_true rfl⟩ (fun r36 er37 => ?_)
    subst er37
    refine ax_eqi (y := nI an) (hbeh) ?_
    refine ax_iload_n hC 8 dX4_moveOf_83 rfl rfl ?_
    have hX38 : MtX z h mt cm aF aG nr TF TG W a b l0 l1 := ⟨_, _, _, _, _, _, _, _, _, _, q0, q1, q2, q3, q4, q5, q6, q7, hfo, hov, hk0, hk1, hta, htb, hz0, hz1, hpl, hft⟩
    refine ax_callVv (st := []) hC [.int 0, .int (nI an), .int steps] q0 rfl (c_X4_draw_0 l D z B lo _ h mt cm aF aG nr TF TG W a b l0 l1 an steps hX38 hok2 (by omega) (by omega) (by omega) hc2 hd2) (cwV 3 hC.1.2.2.2.2 gX4_moveOf_X4_draw rfl rfl rfl (by decide +kernel) ⟨Nat.le_of_ble_eq_true rfl, Nat.le_of_ble_eq_true rfl⟩) rfl rfl (Nat.le_of_ble_eq_true rfl) dX4_moveOf_84 ⟨Nat.le_of_ble_eq_true rfl, Nat.le_of_ble_eq_true rfl⟩ (fun hi39 h40 hp41 => ?_)
    obtain ⟨ei42, fr43, hX44⟩ := hp41
    replace ei42 := ei42.symm
    subst ei42
    have hp_45 : PrC z h40 aF _ TF := hF.kept (fun q _ _ => fr43 q (by omega))
    have hp_46 : PrC z h40 aG _ TG := hG.kept (fun q _ _ => fr43 q (by omega))
    obtain ⟨fo_47, most_47, over_47, pl_47, mv_47, sl_47, ft_47, tk_47, ats_47, lns_47, q0_47, q1_47, q2_47, q3_47, q4_47, q5_47, q6_47, q7_47, hfo_47, hov_47, hk0_47, hk1_47, hta_47, htb_47, hz0_47, hz1_47, hpl_47, hft_47⟩ := id hX44
    refine ax_iconst (v := 1) hC dX4_moveOf_87 (by decide) ?_
    refine ax_zret hC hr hlocks dX4_moveOf_88 (by decide) ?_
    exact ⟨rfl, fun q hq => (fr43 q (by omega)), ⟨_, _, _, _, _, _, _, _, _, _, q0_47, q1_47, q2_47, q3_47, q4_47, q5_47, q6_47, q7_47, hfo_47, hov_47, hk0_47, hk1_47, hta_47, htb_47, hz0_47, hz1_47, hpl_47, hft_47⟩, Or.inl rfl⟩

set_option maxRecDepth 100000 in
set_option maxHeartbeats 4000000 in
theorem c_X4_moveOf_1 (l : Launch) (D : va_G) (z : Nat → ClassId) (B : Heap) (lo hi : Nat) (h : Nat → Option va_E) (mt cm aF aG : Nat) (nr : Int32) (TF TG : PT) (W : Nat → Nat → Prop) (a b l0 l1 : Nat) (ndF ndG : Int32) (tkn steps : Int32) (hX : MtX z h mt cm aF aG nr TF TG W a b l0 l1) (hF : PrC z h aF ndF TF) (hG : PrC z h aG ndG TG) (hwF : wfP TF) (hwG : wfP TG) (hM : MeetW TF TG W) (hok : PlaceOK TF TG W a b l0 l1) (hmF : mt + 8 ≤ aF) (hmG : mt + 8 ≤ aG) (hn1 : nr = 1 ∨ nr = 2) (htk : tkn = if l0 = 0 then 0 else 1) : Met l yX4_moveOf wsX4_moveOf rmX4_moveOf (KP D vwCl B lo hi h (ty6 z) [.ref mt, .int 1, .int tkn, .int steps]) (KQi D vwCl B lo (ty6 z) (fun r hi' h' => hi' = hi ∧ (∀ q, (q < mt ∨ mt + 8 ≤ q) → h' q = h q) ∧ MtX z h' mt cm aF aG nr TF TG W a b l0 l1 ∧ (r = 1 ∨ (r = 0 ∧ l0 = 0 ∧ (l1 = 0 → ¬ pK TG b = 1 ∧ ¬ pK TG b = 3))))) 0 0 (fun q => lo ≤ q) := by
  obtain ⟨fo, most, over, pl, mv, sl, ft, tk, ats, lns, q0, q1, q2, q3, q4, q5, q6, q7, hfo, hov, hk0, hk1, hta, htb, hz0, hz1, hpl, hft⟩ := id hX
  have hwF1 := hwF.1
  have hwG1 := hwG.1
  obtain ⟨ha, hb, hl0, hl1, hm0, hm1⟩ := hok.bnd hwF hwG hM
  refine ax_met (by decide) rfl (Nat.le_of_ble_eq_true rfl) (L0 := [(0, .ref mt), (1, .int 1), (2, .int tkn), (3, .int steps)]) rfl ?_
  intro p e s m args below meth c hC hr hlocks hnm hargs
  have iX4 : ∀ w ∈ u_ws RX4 TX4 15, w ∈ wsX4_moveOf := by decide +kernel
  have LP : ∀ (n t : Nat) (hX1 : Nat → Option va_E), t + n = 26 → (pK TG b = 1 ∨ pK TG b = 3) → l0 = 0 → l1 < 128 → PlaceOK TG TF (fun v u => W u v) b a l1 0 → (∀ q, (q < mt ∨ mt + 8 ≤ q) → hX1 q = h q) → MtX z hX1 mt cm aF aG nr TF TG W a b l0 l1 → Gx p l e rmX4_moveOf s m args below meth c D vwCl B lo 9 (MQ below (KQi D vwCl B lo (ty6 z) (fun r hi' h' => hi' = hi ∧ (∀ q, (q < mt ∨ mt + 8 ≤ q) → h' q = h q) ∧ MtX z h' mt cm aF aG nr TF TG W a b l0 l1 ∧ (r = 1 ∨ (r = 0 ∧ l0 = 0 ∧ (l1 = 0 → ¬ pK TG b = 1 ∧ ¬ pK TG b = 3))))) args s 0 0 (fun q => lo ≤ q)) hi hX1 0 0 [(8, .int (nI t)), (7, .int (nI (2 ^ nlab TG b - 1))), (6, .int (pK TG b)), (5, .int (nI b)), (4, .ref aG), (3, .int steps), (2, .int tkn), (1, .int 1), (0, .ref mt)] 150 [] := by
    intro n
    induction n with
    | zero =>
      intro t hX1 htn hK13 hl hsm hokz hfr hXX
      obtain ⟨foy, mosty, overy, ply, mvy, sly, fty, tky, atsy, lnsy, q0y, q1y, q2y, q3y, q4y, q5y, q6y, q7y, hfoy, hovy, hk0y, hk1y, htay, htby, hz0y, hz1y, hply, hfty⟩ := id hXX
      have hFX : PrC z hX1 aF _ TF := hF.kept (fun q _ _ => hfr q (by omega))
      have hGX : PrC z hX1 aG _ TG := hG.kept (fun q _ _ => hfr q (by omega))
      refine ax_iload hC 0 dX4_moveOf_150 rfl ?_
      refine ax_bipush (v := 26) hC dX4_moveOf_152 (by decide) ?_
      refine ax_icmp_ge (tgt := 198) hC dX4_moveOf_154 (by decide) (fun c1001 => ?_) (fun c1001 => ?_)
      · refine ax_iconst (v := 1) hC dX4_moveOf_198 (by decide) ?_
        refine ax_zret hC hr hlocks dX4_moveOf_199 (by decide) ?_
        exact ⟨rfl, fun q hq => (hfr q hq), ⟨_, _, _, _, _, _, _, _, _, _, q0y, q1y, q2y, q3y, q4y, q5y, q6y, q7y, hfoy, hovy, hk0y, hk1y, htay, htby, hz0y, hz1y, hply, hfty⟩, Or.inl rfl⟩
      · exact absurd (by rw [L_leN (k := 26) (by decide) (by omega)]; omega) c1001
    | succ n ih =>
      intro t hX1 htn hK13 hl hsm hokz hfr hXX
      obtain ⟨foy, mosty, overy, ply, mvy, sly, fty, tky, atsy, lnsy, q0y, q1y, q2y, q3y, q4y, q5y, q6y, q7y, hfoy, hovy, hk0y, hk1y, htay, htby, hz0y, hz1y, hply, hfty⟩ := id hXX
      have hFX : PrC z hX1 aF _ TF := hF.kept (fun q _ _ => hfr q (by omega))
      have hGX : PrC z hX1 aG _ TG := hG.kept (fun q _ _ => hfr q (by omega))
      by_cases ht : t < nlab TG b
      · have hK3 : pK TG b = 3 := hK13.elim (fun q9 => by have q8 := (hwG.2.2.2.2.2 b hb).2 (by rw [q9]; decide); exact absurd (show nlab TG b = 0 by rw [nlab, q8]; decide) (by omega)) id
        have hK12 : ¬ (pK TG b = 1 ∨ pK TG b = 2) := by rintro (q9 | q9) <;> exact k_ne hK3 q9 (by decide)
        refine ax_iload hC 0 dX4_moveOf_150 rfl ?_
        refine ax_bipush (v := 26) hC dX4_moveOf_152 (by decide) ?_
        refine ax_icmp_ge (tgt := 198) hC dX4_moveOf_154 (by decide) (fun c2001 => ?_) (fun c2001 => ?_)
        · refine ax_iconst (v := 1) hC dX4_moveOf_198 (by decide) ?_
          refine ax_zret hC hr hlocks dX4_moveOf_199 (by decide) ?_
          exact ⟨rfl, fun q hq => (hfr q hq), ⟨_, _, _, _, _, _, _, _, _, _, q0y, q1y, q2y, q3y, q4y, q5y, q6y, q7y, hfoy, hovy, hk0y, hk1y, htay, htby, hz0y, hz1y, hply, hfty⟩, Or.inl rfl⟩
        · refine ax_iload hC 1 dX4_moveOf_157 rfl ?_
          refine ax_iload hC 0 dX4_moveOf_159 rfl ?_
          refine ax_ishr hC dX4_moveOf_161 ?_
          refine ax_iconst (v := 1) hC dX4_moveOf_162 (by decide) ?_
          refine ax_iand hC dX4_moveOf_163 ?_
          refine ax_eqi (y := 1) ((lab_bit _ (nlab_eq hwG hb).2 t (by omega)).trans (if_pos ht)) ?_
          refine ax_if_ne (tgt := 170) hC dX4_moveOf_164 (by decide) (fun c2002 => ?_) (fun c2002 => ?_)
          · refine ax_aload_n hC 8 dX4_moveOf_170 rfl rfl ?_
            refine ax_iload_n hC 7 dX4_moveOf_171 rfl rfl ?_
            refine ax_iconst (v := 1) hC dX4_moveOf_172 (by decide) ?_
            refine ax_iand hC dX4_moveOf_173 ?_
            refine ax_eqi (y := 1) (by decide) ?_
            refine ax_aload hC 4 dX4_moveOf_174 rfl ?_
            refine ax_iload hC 3 dX4_moveOf_176 rfl ?_
            refine ax_iload hC 0 dX4_moveOf_178 rfl ?_
            refine ax_callVp (st := [.int 1, .ref mt]) hC [.int (nI b), .int (nI t)] hGX.1 rfl (c_X7_behind l D z B lo _ hX1 aG _ TG (nI b) (nI t) hGX hwG.1 (by rw [nI_toInt (by omega)]; omega)) (cwV 2 hC.1.2.2.2.2 gX4_moveOf_X7_behind rfl rfl rfl (by decide +kernel) ⟨Nat.le_of_ble_eq_true rfl, Nat.le_of_ble_eq_true rfl⟩) rfl rfl (Nat.le_of_ble_eq_true rfl) dX4_moveOf_180 ⟨Nat.le_of_ble_eq_true rfl, Nat.le_of_ble_eq_true rfl⟩ (fun r2003 er2004 => ?_)
            subst er2004
            refine ax_eqi (y := nI (stp TG b t)) (behf_lab hwG hb hK12 ht) ?_
            refine ax_bipush (v := 61) hC dX4_moveOf_183 (by decide) ?_
            refine ax_iload hC 0 dX4_moveOf_185 rfl ?_
            refine ax_iadd hC dX4_moveOf_187 ?_
            refine ax_eqi (y := nI (61 + t)) (nI_add 61 t) ?_
            refine ax_iload_n hC 5 dX4_moveOf_188 rfl rfl ?_
            have hX2005 : MtX z hX1 mt cm aF aG nr TF TG W a b l0 l1 := ⟨_, _, _, _, _, _, _, _, _, _, q0y, q1y, q2y, q3y, q4y, q5y, q6y, q7y, hfoy, hovy, hk0y, hk1y, htay, htby, hz0y, hz1y, hply, hfty⟩
            have hs2006 : PlaceOK TG TF (fun v u => W u v) (stp TG b t) a (if l1 = 0 then (61 + t) else l1 + 128 * (61 + t)) 0 := PlaceOK.send0 hwG hwF hM.flip hokz (Or.inr ⟨hK3, t, ht, rfl, rfl⟩) hsm
            have hs2007 : PlaceOK TF TG W a (stp TG b t) l0 (if l1 = 0 then (61 + t) else l1 + 128 * (61 + t)) := by have q9 := hs2006.flip; rw [hl]; exact q9
            have hs2008 := PlaceOK.bnd hwF hwG hM hs2007
            refine ax_callVv (st := []) hC [.int 1, .int (nI (stp TG b t)), .int (nI (61 + t)), .int steps] q0y rfl (c_X4_send_1 l D z B lo _ hX1 mt cm aF aG nr TF TG W a b l0 l1 (stp TG b t) (if l1 = 0 then (61 + t) else l1 + 128 * (61 + t)) (61 + t) steps hX2005 hs2007 rfl hsm (Nat.lt_of_lt_of_le hs2008.1 (by omega)) (Nat.lt_of_lt_of_le hs2008.2.1 (by omega)) hs2008.2.2.1 hs2008.2.2.2.1) (cwV 4 hC.1.2.2.2.2 gX4_moveOf_X4_send rfl rfl rfl (by decide +kernel) ⟨Nat.le_of_ble_eq_true rfl, Nat.le_of_ble_eq_true rfl⟩) rfl rfl (Nat.le_of_ble_eq_true rfl) dX4_moveOf_189 ⟨Nat.le_of_ble_eq_true rfl, Nat.le_of_ble_eq_true rfl⟩ (fun hi2009 h2010 hp2011 => ?_)
            obtain ⟨ei2012, fr2013, hX2014⟩ := hp2011
            replace ei2012 := ei2012.symm
            subst ei2012
            have hp_2015 : PrC z h2010 aF _ TF := hFX.kept (fun q _ _ => fr2013 q (by omega))
            have hp_2016 : PrC z h2010 aG _ TG := hGX.kept (fun q _ _ => fr2013 q (by omega))
            obtain ⟨fo_2017, most_2017, over_2017, pl_2017, mv_2017, sl_2017, ft_2017, tk_2017, ats_2017, lns_2017, q0_2017, q1_2017, q2_2017, q3_2017, q4_2017, q5_2017, q6_2017, q7_2017, hfo_2017, hov_2017, hk0_2017, hk1_2017, hta_2017, htb_2017, hz0_2017, hz1_2017, hpl_2017, hft_2017⟩ := id hX2014
            refine ax_iinc (v := (nI t) + 1) hC 0 [(8, .int ((nI t) + 1)), (7, .int (nI (2 ^ nlab TG b - 1))), (6, .int (pK TG b)), (5, .int (nI b)), (4, .ref aG), (3, .int steps), (2, .int tkn), (1, .int 1), (0, .ref mt)] dX4_moveOf_192 rfl rfl (by decide) rfl ?_
            refine ax_goto (tgt := 150) hC dX4_moveOf_195 (by decide) ?_
            refine ax_locals [0, 1, 2, 3, 4, 5, 6, 7, 8] (L' := [(8, .int ((nI t) + 1)), (7, .int (nI (2 ^ nlab TG b - 1))), (6, .int (pK TG b)), (5, .int (nI b)), (4, .ref aG), (3, .int steps), (2, .int tkn), (1, .int 1), (0, .ref mt)]) rfl ?_
            rw [show (nI t + 1) = nI (t + 1) from nI_1 t]
            exact ih (t + 1) h2010 (by omega) hK13 hl hsm hokz (fun q hq => ((fr2013 q (by omega)).trans (hfr q hq))) ⟨_, _, _, _, _, _, _, _, _, _, q0_2017, q1_2017, q2_2017, q3_2017, q4_2017, q5_2017, q6_2017, q7_2017, hfo_2017, hov_2017, hk0_2017, hk1_2017, hta_2017, htb_2017, hz0_2017, hz1_2017, hpl_2017, hft_2017⟩
          · exact absurd c2002 (by decide)
      · refine ax_iload hC 0 dX4_moveOf_150 rfl ?_
        refine ax_bipush (v := 26) hC dX4_moveOf_152 (by decide) ?_
        refine ax_icmp_ge (tgt := 198) hC dX4_moveOf_154 (by decide) (fun c2019 => ?_) (fun c2019 => ?_)
        · refine ax_iconst (v := 1) hC dX4_moveOf_198 (by decide) ?_
          refine ax_zret hC hr hlocks dX4_moveOf_199 (by decide) ?_
          exact ⟨rfl, fun q hq => (hfr q hq), ⟨_, _, _, _, _, _, _, _, _, _, q0y, q1y, q2y, q3y, q4y, q5y, q6y, q7y, hfoy, hovy, hk0y, hk1y, htay, htby, hz0y, hz1y, hply, hfty⟩, Or.inl rfl⟩
        · refine ax_iload hC 1 dX4_moveOf_157 rfl ?_
          refine ax_iload hC 0 dX4_moveOf_159 rfl ?_
          refine ax_ishr hC dX4_moveOf_161 ?_
          refine ax_iconst (v := 1) hC dX4_moveOf_162 (by decide) ?_
          refine ax_iand hC dX4_moveOf_163 ?_
          refine ax_eqi (y := 0) ((lab_bit _ (nlab_eq hwG hb).2 t (by omega)).trans (if_neg ht)) ?_
          refine ax_if_ne (tgt := 170) hC dX4_moveOf_164 (by decide) (fun c2020 => ?_) (fun c2020 => ?_)
          · exact absurd c2020 (by decide)
          · refine ax_goto (tgt := 192) hC dX4_moveOf_167 (by decide) ?_
            refine ax_iinc (v := (nI t) + 1) hC 0 [(8, .int ((nI t) + 1)), (7, .int (nI (2 ^ nlab TG b - 1))), (6, .int (pK TG b)), (5, .int (nI b)), (4, .ref aG), (3, .int steps), (2, .int tkn), (1, .int 1), (0, .ref mt)] dX4_moveOf_192 rfl rfl (by decide) rfl ?_
            refine ax_goto (tgt := 150) hC dX4_moveOf_195 (by decide) ?_
            refine ax_locals [0, 1, 2, 3, 4, 5, 6, 7, 8] (L' := [(8, .int ((nI t) + 1)), (7, .int (nI (2 ^ nlab TG b - 1))), (6, .int (pK TG b)), (5, .int (nI b)), (4, .ref aG), (3, .int steps), (2, .int tkn), (1, .int 1), (0, .ref mt)]) rfl ?_
            rw [show (nI t + 1) = nI (t + 1) from nI_1 t]
            exact ih (t + 1) hX1 (by omega) hK13 hl hsm hokz (fun q hq => (hfr q hq)) ⟨_, _, _, _, _, _, _, _, _, _, q0y, q1y, q2y, q3y, q4y, q5y, q6y, q7y, hfoy, hovy, hk0y, hk1y, htay, htby, hz0y, hz1y, hply, hfty⟩
  refine ax_aload_n hC 0 dX4_moveOf_0 rfl rfl ?_
  refine ax_getf (v := .ref (mt + 5)) hC q0 iX4 rfl 10 (by decide) (by decide +kernel) rfl rfl dX4_moveOf_1 ?_
  refine ax_iload_n hC 1 dX4_moveOf_4 rfl rfl ?_
  refine ax_iconst (v := 1) hC dX4_moveOf_5 (by decide) ?_
  refine ax_iand hC dX4_moveOf_6 ?_
  refine ax_eqi (y := 1) (by decide) ?_
  have b1 : vp_in 1 2 := vp_in_iff.mpr (by decide)
  refine ax_aald hC q5 5 rfl b1 dX4_moveOf_7 ?_
  refine ax_eqq (y := some aG) (hk1) ?_
  refine ax_astore hC [(4, .ref aG), (0, .ref mt), (1, .int 1), (2, .int tkn), (3, .int steps)] dX4_moveOf_8 (by decide) rfl ?_
  refine ax_aload hC 0 dX4_moveOf_10 rfl ?_
  refine ax_ifnonnull (tgt := 17) hC dX4_moveOf_12 (by decide) ?_
  refine ax_aload_n hC 1 dX4_moveOf_17 rfl rfl ?_
  refine ax_getf (v := .ref (mt + 6)) hC q0 iX4 rfl 11 (by decide) (by decide +kernel) rfl rfl dX4_moveOf_18 ?_
  refine ax_iload_n hC 2 dX4_moveOf_21 rfl rfl ?_
  refine ax_iconst (v := 1) hC dX4_moveOf_22 (by decide) ?_
  refine ax_iand hC dX4_moveOf_23 ?_
  refine ax_eqi (y := 1) (by decide) ?_
  have b2 : vp_in 1 2 := vp_in_iff.mpr (by decide)
  refine ax_iald hC q6 1 rfl b2 dX4_moveOf_24 ?_
  refine ax_eqi (y := nI b) (htb) ?_
  refine ax_istore hC [(5, .int (nI b)), (4, .ref aG), (0, .ref mt), (1, .int 1), (2, .int tkn), (3, .int steps)] dX4_moveOf_25 (by decide) rfl ?_
  refine ax_aload hC 1 dX4_moveOf_27 rfl ?_
  refine ax_iload hC 0 dX4_moveOf_29 rfl ?_
  refine ax_callVp (st := []) hC [.int (nI b)] hG.1 rfl (c_X7_kindOf l D z B lo _ h aG _ TG (nI b) hG hwG.1) (cwV 1 hC.1.2.2.2.2 gX4_moveOf_X7_kindOf rfl rfl rfl (by decide +kernel) ⟨Nat.le_of_ble_eq_true rfl, Nat.le_of_ble_eq_true rfl⟩) rfl rfl (Nat.le_of_ble_eq_true rfl) dX4_moveOf_31 ⟨Nat.le_of_ble_eq_true rfl, Nat.le_of_ble_eq_true rfl⟩ (fun r3 er4 => ?_)
  subst er4
  refine ax_eqi (y := pK TG b) (rd_nat hb (by omega)) ?_
  refine ax_istore hC [(6, .int (pK TG b)), (5, .int (nI b)), (4, .ref aG), (0, .ref mt), (1, .int 1), (2, .int tkn), (3, .int steps)] dX4_moveOf_34 (by decide) rfl ?_
  refine ax_aload hC 2 dX4_moveOf_36 rfl ?_
  refine ax_iload hC 1 dX4_moveOf_38 rfl ?_
  refine ax_callVp (st := []) hC [.int (nI b)] hG.1 rfl (c_X7_labelsOf l D z B lo _ h aG _ TG (nI b) hG hwG.1) (cwV 1 hC.1.2.2.2.2 gX4_moveOf_X7_labelsOf rfl rfl rfl (by decide +kernel) ⟨Nat.le_of_ble_eq_true rfl, Nat.le_of_ble_eq_true rfl⟩) rfl rfl (Nat.le_of_ble_eq_true rfl) dX4_moveOf_40 ⟨Nat.le_of_ble_eq_true rfl, Nat.le_of_ble_eq_true rfl⟩ (fun r5 er6 => ?_)
  subst er6
  refine ax_eqi (y := nI (2 ^ nlab TG b - 1)) ((rd_nat hb (by omega)).trans (nlab_eq hwG hb).1) ?_
  refine ax_istore hC [(7, .int (nI (2 ^ nlab TG b - 1))), (6, .int (pK TG b)), (5, .int (nI b)), (4, .ref aG), (0, .ref mt), (1, .int 1), (2, .int tkn), (3, .int steps)] dX4_moveOf_43 (by decide) rfl ?_
  refine ax_iload_n hC 6 dX4_moveOf_45 rfl rfl ?_
  refine ax_iconst (v := 1) hC dX4_moveOf_46 (by decide) ?_
  refine ax_icmp_ne (tgt := 89) hC dX4_moveOf_47 (by decide) (fun c7 => ?_) (fun c7 => ?_)
  · have hl : l0 = 0 := Decidable.byContradiction (fun q9 => c7 (by rw [htk, if_neg q9]))
    have hokz : PlaceOK TG TF (fun v u => W u v) b a l1 0 := by have q9 := hok.flip; rw [hl] at q9; exact q9
    refine ax_iload hC 1 dX4_moveOf_89 rfl ?_
    refine ax_iconst (v := 1) hC dX4_moveOf_91 (by decide) ?_
    refine ax_icmp_eq (tgt := 101) hC dX4_moveOf_92 (by decide) (fun c8 => ?_) (fun c8 => ?_)
    · refine ax_aload_n hC 4 dX4_moveOf_101 rfl rfl ?_
      refine ax_getf (v := .ref (mt + 7)) hC q0 iX4 rfl 12 (by decide) (by decide +kernel) rfl rfl dX4_moveOf_102 ?_
      refine ax_iload_n hC 5 dX4_moveOf_105 rfl rfl ?_
      refine ax_iconst (v := 1) hC dX4_moveOf_106 (by decide) ?_
      refine ax_iand hC dX4_moveOf_107 ?_
      refine ax_eqi (y := 1) (by decide) ?_
      have b9 : vp_in 1 2 := vp_in_iff.mpr (by decide)
      refine ax_iald hC q7 1 rfl b9 dX4_moveOf_108 ?_
      refine ax_eqi (y := nI l1) (hz1) ?_
      refine ax_callSp (st := []) hC [.int (nI l1)] (c_X4_lying l D z B lo _ h (nI l1)) (va_cwS 1 hC.1.2.2.2.2 gX4_moveOf_X4_lying rfl rfl rfl (by decide +kernel) ⟨Nat.le_of_ble_eq_true rfl, Nat.le_of_ble_eq_true rfl⟩) rfl rfl (Nat.le_of_ble_eq_true rfl) dX4_moveOf_109 ⟨Nat.le_of_ble_eq_true rfl, Nat.le_of_ble_eq_true rfl⟩ (fun r10 er11 => ?_)
      subst er11
      refine ax_aload_n hC 4 dX4_moveOf_112 rfl rfl ?_
      refine ax_getf (v := .int nr) hC q0 iX4 rfl 13 (by decide) (by decide +kernel) rfl rfl dX4_moveOf_113 ?_
      refine ax_icmp_lt (tgt := 121) hC dX4_moveOf_116 (by decide) (fun c12 => ?_) (fun c12 => ?_)
      · have hsm : l1 < 128 := Decidable.byContradiction (fun q9 => by have c9 := c12; rw [lyf_nI l1 (by omega), if_neg (by omega), if_neg q9] at c9; rcases hn1 with e9 | e9 <;> rw [e9] at c9 <;> exact absurd c9 (by decide))
        have hK13 : pK TG b = 1 ∨ pK TG b = 3 := Or.inl c8
        refine ax_iload hC 1 dX4_moveOf_121 rfl ?_
        refine ax_iconst (v := 1) hC dX4_moveOf_123 (by decide) ?_
        refine ax_icmp_ne (tgt := 147) hC dX4_moveOf_124 (by decide) (fun c13 => ?_) (fun c13 => ?_)
        · exact absurd c8 c13
        · refine ax_aload_n hC 4 dX4_moveOf_127 rfl rfl ?_
          refine ax_iload_n hC 5 dX4_moveOf_128 rfl rfl ?_
          refine ax_iconst (v := 1) hC dX4_moveOf_129 (by decide) ?_
          refine ax_iand hC dX4_moveOf_130 ?_
          refine ax_eqi (y := 1) (by decide) ?_
          refine ax_aload hC 3 dX4_moveOf_131 rfl ?_
          refine ax_iload hC 2 dX4_moveOf_133 rfl ?_
          refine ax_iconst (v := 0) hC dX4_moveOf_135 (by decide) ?_
          refine ax_callVp (st := [.int 1, .ref mt]) hC [.int (nI b), .int 0] hG.1 rfl (c_X7_stepOf l D z B lo _ h aG _ TG (nI b) 0 hG hwG.1 (by rw [nI_toInt (by omega)]; omega)) (cwV 2 hC.1.2.2.2.2 gX4_moveOf_X7_stepOf rfl rfl rfl (by decide +kernel) ⟨Nat.le_of_ble_eq_true rfl, Nat.le_of_ble_eq_true rfl⟩) rfl rfl (Nat.le_of_ble_eq_true rfl) dX4_moveOf_136 ⟨Nat.le_of_ble_eq_true rfl, Nat.le_of_ble_eq_true rfl⟩ (fun r14 er15 => ?_)
          subst er15
          refine ax_eqi (y := nI (stp TG b 0)) ((stp_eq hwG b 0).1) ?_
          refine ax_iconst (v := 1) hC dX4_moveOf_139 (by decide) ?_
          refine ax_iload hC 2 dX4_moveOf_140 rfl ?_
          refine ax_iadd hC dX4_moveOf_142 ?_
          refine ax_eqi (y := nI (1 + b)) (nI_add 1 b) ?_
          refine ax_iload_n hC 7 dX4_moveOf_143 rfl rfl ?_
          have hX16 : MtX z h mt cm aF aG nr TF TG W a b l0 l1 := ⟨_, _, _, _, _, _, _, _, _, _, q0, q1, q2, q3, q4, q5, q6, q7, hfo, hov, hk0, hk1, hta, htb, hz0, hz1, hpl, hft⟩
          have hs17 : PlaceOK TG TF (fun v u => W u v) (stp TG b 0) a (if l1 = 0 then (1 + b) else l1 + 128 * (1 + b)) 0 := PlaceOK.send0 hwG hwF hM.flip hokz (Or.inl ⟨c8, rfl, rfl⟩) hsm
          have hs18 : PlaceOK TF TG W a (stp TG b 0) l0 (if l1 = 0 then (1 + b) else l1 + 128 * (1 + b)) := by have q9 := hs17.flip; rw [hl]; exact q9
          have hs19 := PlaceOK.bnd hwF hwG hM hs18
          refine ax_callVv (st := []) hC [.int 1, .int (nI (stp TG b 0)), .int (nI (1 + b)), .int steps] q0 rfl (c_X4_send_1 l D z B lo _ h mt cm aF aG nr TF TG W a b l0 l1 (stp TG b 0) (if l1 = 0 then (1 + b) else l1 + 128 * (1 + b)) (1 + b) steps hX16 hs18 rfl hsm (Nat.lt_of_lt_of_le hs19.1 (by omega)) (Nat.lt_of_lt_of_le hs19.2.1 (by omega)) hs19.2.2.1 hs19.2.2.2.1) (cwV 4 hC.1.2.2.2.2 gX4_moveOf_X4_send rfl rfl rfl (by decide +kernel) ⟨Nat.le_of_ble_eq_true rfl, Nat.le_of_ble_eq_true rfl⟩) rfl rfl (Nat.le_of_ble_eq_true rfl) dX4_moveOf_144 ⟨Nat.le_of_ble_eq_true rfl, Nat.le_of_ble_eq_true rfl⟩ (fun hi20 h21 hp22 => ?_)
          obtain ⟨ei23, fr24, hX25⟩ := hp22
          replace ei23 := ei23.symm
          subst ei23
          have hp_26 : PrC z h21 aF _ TF := hF.kept (fun q _ _ => fr24 q (by omega))
          have hp_27 : PrC z h21 aG _ TG := hG.kept (fun q _ _ => fr24 q (by omega))
          obtain ⟨fo_28, most_28, over_28, pl_28, mv_28, sl_28, ft_28, tk_28, ats_28, lns_28, q0_28, q1_28, q2_28, q3_28, q4_28, q5_28, q6_28, q7_28, hfo_28, hov_28, hk0_28, hk1_28, hta_28, htb_28, hz0_28, hz1_28, hpl_28, hft_28⟩ := id hX25
          refine ax_iconst (v := 0) hC dX4_moveOf_147 (by decide) ?_
          refine ax_istore hC [(8, .int 0), (7, .int (nI (2 ^ nlab TG b - 1))), (6, .int (pK TG b)), (5, .int (nI b)), (4, .ref aG), (0, .ref mt), (1, .int 1), (2, .int tkn), (3, .int steps)] dX4_moveOf_148 (by decide) rfl ?_
          refine ax_locals [0, 1, 2, 3, 4, 8, 7, 6, 5] (L' := [(8, .int 0), (7, .int (nI (2 ^ nlab TG b - 1))), (6, .int (pK TG b)), (5, .int (nI b)), (4, .ref aG), (3, .int steps), (2, .int tkn), (1, .int 1), (0, .ref mt)]) rfl ?_
          exact LP 26 0 h21 (by omega) hK13 hl hsm hokz (fun q hq => (fr24 q (by omega))) ⟨_, _, _, _, _, _, _, _, _, _, q0_28, q1_28, q2_28, q3_28, q4_28, q5_28, q6_28, q7_28, hfo_28, hov_28, hk0_28, hk1_28, hta_28, htb_28, hz0_28, hz1_28, hpl_28, hft_28⟩
      · refine ax_iconst (v := 0) hC dX4_moveOf_119 (by decide) ?_
        refine ax_zret hC hr hlocks dX4_moveOf_120 (by decide) ?_
        exact ⟨rfl, fun q hq => rfl, ⟨_, _, _, _, _, _, _, _, _, _, q0, q1, q2, q3, q4, q5, q6, q7, hfo, hov, hk0, hk1, hta, htb, hz0, hz1, hpl, hft⟩, Or.inr ⟨rfl, hl, fun q9 => absurd (by rw [q9]; rcases hn1 with e9 | e9 <;> rw [e9] <;> decide) c12⟩⟩
    · refine ax_iload hC 1 dX4_moveOf_95 rfl ?_
      refine ax_iconst (v := 3) hC dX4_moveOf_97 (by decide) ?_
      refine ax_icmp_ne (tgt := 119) hC dX4_moveOf_98 (by decide) (fun c29 => ?_) (fun c29 => ?_)
      · refine ax_iconst (v := 0) hC dX4_moveOf_119 (by decide) ?_
        refine ax_zret hC hr hlocks dX4_moveOf_120 (by decide) ?_
        exact ⟨rfl, fun q hq => rfl, ⟨_, _, _, _, _, _, _, _, _, _, q0, q1, q2, q3, q4, q5, q6, q7, hfo, hov, hk0, hk1, hta, htb, hz0, hz1, hpl, hft⟩, Or.inr ⟨rfl, hl, fun _ => ⟨c8, c29⟩⟩⟩
      · refine ax_aload_n hC 4 dX4_moveOf_101 rfl rfl ?_
        refine ax_getf (v := .ref (mt + 7)) hC q0 iX4 rfl 12 (by decide) (by decide +kernel) rfl rfl dX4_moveOf_102 ?_
        refine ax_iload_n hC 5 dX4_moveOf_105 rfl rfl ?_
        refine ax_iconst (v := 1) hC dX4_moveOf_106 (by decide) ?_
        refine ax_iand hC dX4_moveOf_107 ?_
        refine ax_eqi (y := 1) (by decide) ?_
        have b30 : vp_in 1 2 := vp_in_iff.mpr (by decide)
        refine ax_iald hC q7 1 rfl b30 dX4_moveOf_108 ?_
        refine ax_eqi (y := nI l1) (hz1) ?_
        refine ax_callSp (st := []) hC [.int (nI l1)] (c_X4_lying l D z B lo _ h (nI l1)) (va_cwS 1 hC.1.2.2.2.2 gX4_moveOf_X4_lying rfl rfl rfl (by decide +kernel) ⟨Nat.le_of_ble_eq_true rfl, Nat.le_of_ble_eq_true rfl⟩) rfl rfl (Nat.le_of_ble_eq_true rfl) dX4_moveOf_109 ⟨Nat.le_of_ble_eq_true rfl, Nat.le_of_ble_eq_true rfl⟩ (fun r31 er32 => ?_)
        subst er32
        refine ax_aload_n hC 4 dX4_moveOf_112 rfl rfl ?_
        refine ax_getf (v := .int nr) hC q0 iX4 rfl 13 (by decide) (by decide +kernel) rfl rfl dX4_moveOf_113 ?_
        refine ax_icmp_lt (tgt := 121) hC dX4_moveOf_116 (by decide) (fun c33 => ?_) (fun c33 => ?_)
        · have hsm : l1 < 128 := Decidable.byContradiction (fun q9 => by have c9 := c33; rw [lyf_nI l1 (by omega), if_neg (by omega), if_neg q9] at c9; rcases hn1 with e9 | e9 <;> rw [e9] at c9 <;> exact absurd c9 (by decide))
          have hK13 : pK TG b = 1 ∨ pK TG b = 3 := Or.inr c29
          refine ax_iload hC 1 dX4_moveOf_121 rfl ?_
          refine ax_iconst (v := 1) hC dX4_moveOf_123 (by decide) ?_
          refine ax_icmp_ne (tgt := 147) hC dX4_moveOf_124 (by decide) (fun c34 => ?_) (fun c34 => ?_)
          · refine ax_iconst (v := 0) hC dX4_moveOf_147 (by decide) ?_
            refine ax_istore hC [(8, .int 0), (7, .int (nI (2 ^ nlab TG b - 1))), (6, .int (pK TG b)), (5, .int (nI b)), (4, .ref aG), (0, .ref mt), (1, .int 1), (2, .int tkn), (3, .int steps)] dX4_moveOf_148 (by decide) rfl ?_
            refine ax_locals [0, 1, 2, 3, 4, 8, 7, 6, 5] (L' := [(8, .int 0), (7, .int (nI (2 ^ nlab TG b - 1))), (6, .int (pK TG b)), (5, .int (nI b)), (4, .ref aG), (3, .int steps), (2, .int tkn), (1, .int 1), (0, .ref mt)]) rfl ?_
            exact LP 26 0 h (by omega) hK13 hl hsm hokz (fun q hq => rfl) ⟨_, _, _, _, _, _, _, _, _, _, q0, q1, q2, q3, q4, q5, q6, q7, hfo, hov, hk0, hk1, hta, htb, hz0, hz1, hpl, hft⟩
          · exact absurd (c29.symm.trans c34) (by decide)
        · refine ax_iconst (v := 0) hC dX4_moveOf_119 (by decide) ?_
          refine ax_zret hC hr hlocks dX4_moveOf_120 (by decide) ?_
          exact ⟨rfl, fun q hq => rfl, ⟨_, _, _, _, _, _, _, _, _, _, q0, q1, q2, q3, q4, q5, q6, q7, hfo, hov, hk0, hk1, hta, htb, hz0, hz1, hpl, hft⟩, Or.inr ⟨rfl, hl, fun q9 => absurd (by rw [q9]; rcases hn1 with e9 | e9 <;> rw [e9] <;> decide) c33⟩⟩
  · have hl : ¬ l0 = 0 := fun q9 => by rw [htk, if_pos q9] at c7; exact absurd c7 (by decide)
    obtain ⟨-, an, hbeh, hok1⟩ := (hok.flip.take0 hwG hwF hM.flip hl)
    have hok2 := hok1.flip
    obtain ⟨ha2, hb2, hc2, hd2, -, -⟩ := PlaceOK.bnd hwF hwG hM hok2
    refine ax_aload_n hC 4 dX4_moveOf_50 rfl rfl ?_
    refine ax_getf (v := .ref (mt + 7)) hC q0 iX4 rfl 12 (by decide) (by decide +kernel) rfl rfl dX4_moveOf_51 ?_
    refine ax_iconst (v := 1) hC dX4_moveOf_54 (by decide) ?_
    refine ax_iload_n hC 5 dX4_moveOf_55 rfl rfl ?_
    refine ax_isub hC dX4_moveOf_56 ?_
    refine ax_eqi (y := 0) (by decide) ?_
    refine ax_iconst (v := 1) hC dX4_moveOf_57 (by decide) ?_
    refine ax_iand hC dX4_moveOf_58 ?_
    refine ax_eqi (y := 0) (by decide) ?_
    have b35 : vp_in 0 2 := vp_in_iff.mpr (by decide)
    refine ax_iald hC q7 1 rfl b35 dX4_moveOf_59 ?_
    refine ax_eqi (y := nI l0) (hz0) ?_
    refine ax_bipush (v := 127) hC dX4_moveOf_60 (by decide) ?_
    refine ax_iand hC dX4_moveOf_62 ?_
    refine ax_eqi (y := nI (l0 % 128)) (i32_and l0 7) ?_
    refine ax_iconst (v := 1) hC dX4_moveOf_63 (by decide) ?_
    refine ax_isub hC dX4_moveOf_64 ?_
    refine ax_bipush (v := 60) hC dX4_moveOf_65 (by decide) ?_
    refine ax_isub hC dX4_moveOf_67 ?_
    refine ax_istore hC [(8, .int (((nI (l0 % 128)) - 1) - 60)), (7, .int (nI (2 ^ nlab TG b - 1))), (6, .int (pK TG b)), (5, .int (nI b)), (4, .ref aG), (0, .ref mt), (1, .int 1), (2, .int tkn), (3, .int steps)] dX4_moveOf_68 (by decide) rfl ?_
    refine ax_aload_n hC 5 dX4_moveOf_70 rfl rfl ?_
    refine ax_iload_n hC 6 dX4_moveOf_71 rfl rfl ?_
    refine ax_iconst (v := 1) hC dX4_moveOf_72 (by decide) ?_
    refine ax_iand hC dX4_moveOf_73 ?_
    refine ax_eqi (y := 1) (by decide) ?_
    refine ax_aload hC 4 dX4_moveOf_74 rfl ?_
    refine ax_iload hC 3 dX4_moveOf_76 rfl ?_
    refine ax_iload hC 0 dX4_moveOf_78 rfl ?_
    refine ax_callVp (st := [.int 1, .ref mt]) hC [.int (nI b), .int (((nI (l0 % 128)) - 1) - 60)] hG.1 rfl (c_X7_behind l D z B lo _ h aG _ TG (nI b) (((nI (l0 % 128)) - 1) - 60) hG hwG.1 (by rw [nI_toInt (by omega)]; omega)) (cwV 2 hC.1.2.2.2.2 gX4_moveOf_X7_behind rfl rfl rfl (by decide +kernel) ⟨Nat.le_of_ble_eq_true rfl, Nat.le_of_ble_eq_true rfl⟩) rfl rfl (Nat.le_of_ble_eq_true rfl) dX4_moveOf_80 ⟨Nat.le_of_ble_eq_true rfl, Nat.le_of_ble_eq_true rfl⟩ (fun r36 er37 => ?_)
    subst er37
    refine ax_eqi (y := nI an) (hbeh) ?_
    refine ax_iload_n hC 8 dX4_moveOf_83 rfl rfl ?_
    have hX38 : MtX z h mt cm aF aG nr TF TG W a b l0 l1 := ⟨_, _, _, _, _, _, _, _, _, _, q0, q1, q2, q3, q4, q5, q6, q7, hfo, hov, hk0, hk1, hta, htb, hz0, hz1, hpl, hft⟩
    refine ax_callVv (st := []) hC [.int 1, .int (nI an), .int steps] q0 rfl (c_X4_draw_1 l D z B lo _ h mt cm aF aG nr TF TG W a b l0 l1 an steps hX38 hok2 (by omega) (by omega) (by omega) hc2 hd2) (cwV 3 hC.1.2.2.2.2 gX4_moveOf_X4_draw rfl rfl rfl (by decide +kernel) ⟨Nat.le_of_ble_eq_true rfl, Nat.le_of_ble_eq_true rfl⟩) rfl rfl (Nat.le_of_ble_eq_true rfl) dX4_moveOf_84 ⟨Nat.le_of_ble_eq_true rfl, Nat.le_of_ble_eq_true rfl⟩ (fun hi39 h40 hp41 => ?_)
    obtain ⟨ei42, fr43, hX44⟩ := hp41
    replace ei42 := ei42.symm
    subst ei42
    have hp_45 : PrC z h40 aF _ TF := hF.kept (fun q _ _ => fr43 q (by omega))
    have hp_46 : PrC z h40 aG _ TG := hG.kept (fun q _ _ => fr43 q (by omega))
    obtain ⟨fo_47, most_47, over_47, pl_47, mv_47, sl_47, ft_47, tk_47, ats_47, lns_47, q0_47, q1_47, q2_47, q3_47, q4_47, q5_47, q6_47, q7_47, hfo_47, hov_47, hk0_47, hk1_47, hta_47, htb_47, hz0_47, hz1_47, hpl_47, hft_47⟩ := id hX44
    refine ax_iconst (v := 1) hC dX4_moveOf_87 (by decide) ?_
    refine ax_zret hC hr hlocks dX4_moveOf_88 (by decide) ?_
    exact ⟨rfl, fun q hq => (fr43 q (by omega)), ⟨_, _, _, _, _, _, _, _, _, _, q0_47, q1_47, q2_47, q3_47, q4_47, q5_47, q6_47, q7_47, hfo_47, hov_47, hk0_47, hk1_47, hta_47, htb_47, hz0_47, hz1_47, hpl_47, hft_47⟩, Or.inl rfl⟩
