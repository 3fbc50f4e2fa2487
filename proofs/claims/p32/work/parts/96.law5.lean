set_option maxRecDepth 100000 in
set_option maxHeartbeats 4000000 in
theorem law_5 {p : Program} {l : Launch} {e : Env} {s : State} {m : MethodId} {args : Array Value} {below : List Frame} {meth : Method} {c : Code} {D : va_G} {z : Nat → ClassId} {B : Heap} {lo : Nat} {kr kv : Nat → Nat} {Q : State → Prop} (hC : Cx p s m args c cL_law 10 wsL_law RL D vwCl (ty6 z)) (hX : XSw lo B kr kv s) {hi o : Nat} {h : Nat → Option va_E} {pa : Nat → Option Nat} {cs ss j k : Nat} {nv : Nat → Nat} {wv : Nat → Bool} {TT : Nat → Tre} (hO : ObS h o 0 0) (hPs : PsS z h o pa) (hB : WB z h o) (hP : Prs z h o hi pa nv wv TT 5) (hj : j < 5) (hk : k < 5) (hcs : cs ≤ 10000) (hss : ss ≤ 1000000) (hK : ∀ (h9 : Nat → Option va_E), (∀ q, (q < o + 23 ∨ o + 40 ≤ q) → h9 q = h q) → WB z h9 o → Gx p l e room_1 s m args below meth c D vwCl B lo 10 Q hi h9 cs ss [(7, .int (nI (k + 1))), (6, .int (nI j)), (1, .ref o), (0, .ref (kr 19))] 186 []) : Gx p l e room_1 s m args below meth c D vwCl B lo 10 Q hi h cs ss [(7, .int (nI k)), (6, .int (nI j)), (1, .ref o), (0, .ref (kr 19))] 186 [] := by
  obtain ⟨a, a2, F, F2, pj, pj2, hF, hF2, mF, tF, la, la9, la2, la29⟩ := hP j hj
  obtain ⟨b, b2, G, G2, pk, pk2, hG, hG2, mG, tG, lb, lb9, lb2, lb29⟩ := hP k hk
  obtain ⟨hS, hH, t90, t91, nr9, ov9, hM⟩ := hB
  have wF := mF.tab.wfP_
  have wG := mG.tab.wfP_
  have wF2 := tF.wf wF
  have wG2 := tG.wf wG
  refine ax_iload hC 0 dL_law_186 rfl ?_
  refine ax_iconst (v := 5) hC dL_law_188 (by decide) ?_
  refine ax_icmp_ge (tgt := 368) hC dL_law_189 (by decide) (fun c1 => ?_) (fun c1 => ?_)
  · exact absurd ((nI_leI (a := 5) (by decide) (by omega)).mp c1) (by omega)
  · refine ax_aload_n hC 2 dL_law_192 rfl rfl ?_
    refine ax_iload hC 1 dL_law_193 rfl ?_
    refine ax_iload hC 0 dL_law_195 rfl ?_
    refine ax_callVi (st := []) hC [.int (nI j), .int (nI k)] hO rfl (c_X11_fits l D z B lo _ h o 0 0 j k a b (nI (pcap F)) (nI (pcap G)) F G pa hO hPs (by omega) (by omega) pj pk hF hG wF wG la lb hS) (cwV 2 hC.1.2.2.2.2 gL_law_X11_fits rfl rfl rfl (by decide +kernel) ⟨Nat.le_of_ble_eq_true rfl, Nat.le_of_ble_eq_true rfl⟩) rfl rfl (Nat.le_of_ble_eq_true rfl) dL_law_197 ⟨show cs + 0 ≤ 600000 by omega, show ss + 0 ≤ 7302250 by omega⟩ (fun r2 hi3 h4 hp5 => ?_)
    obtain ⟨ih_h4, fh_h4, S_h4, hr_h4⟩ := hp5
    replace ih_h4 := ih_h4.symm
    subst ih_h4
    have w6 := hO.kept (fun q _ _ => (fh_h4 q (by omega)))
    have w7 := hPs.kept (fun q _ _ => (fh_h4 q (by omega)))
    have w8 := hF.kept (fun q _ _ => (fh_h4 q (by omega)))
    have w9 := hG.kept (fun q _ _ => (fh_h4 q (by omega)))
    have w10 := hF2.kept (fun q _ _ => (fh_h4 q (by omega)))
    have w11 := hG2.kept (fun q _ _ => (fh_h4 q (by omega)))
    have w12 := hH.kept (fun q _ _ => fh_h4 q (by omega))
    have w13 := hM.kept (fun q _ _ => fh_h4 q (by omega))
    rcases hr_h4 with ⟨er_h4, ft_h4⟩ | ⟨er_h4, ft_h4⟩
    · subst er_h4
      refine ax_iconst (v := 1) hC dL_law_200 (by decide) ?_
      refine ax_icmp_ne (tgt := 208) hC dL_law_201 (by decide) (fun c14 => ?_) (fun c14 => ?_)
      · exact absurd c14 (by decide)
      · refine ax_iconst (v := 1) hC dL_law_204 (by decide) ?_
        refine ax_goto (tgt := 209) hC dL_law_205 (by decide) ?_
        refine ax_istore hC [(8, .int 1), (7, .int (nI k)), (6, .int (nI j)), (1, .ref o), (0, .ref (kr 19))] dL_law_209 (by decide) rfl ?_
        refine ax_iload hC 0 dL_law_211 rfl ?_
        refine ax_aload_n hC 3 dL_law_213 rfl rfl ?_
        refine ax_bipush (v := 8) hC dL_law_214 (by decide) ?_
        refine ax_iload hC 1 dL_law_216 rfl ?_
        refine ax_iadd hC dL_law_218 ?_
        refine ax_eqi (y := nI (8 + k)) (nI_add 8 k) ?_
        refine ax_bipush (v := 8) hC dL_law_219 (by decide) ?_
        refine ax_iload hC 2 dL_law_221 rfl ?_
        refine ax_iadd hC dL_law_223 ?_
        refine ax_eqi (y := nI (8 + j)) (nI_add 8 j) ?_
        refine ax_callVi (st := [.int 1]) hC [.int (nI (8 + k)), .int (nI (8 + j))] w6 rfl (c_X11_fits l D z B lo _ h4 o 0 0 (8 + k) (8 + j) b2 a2 (nI (pcap G)) (nI (pcap F)) G2 F2 pa w6 w7 (by omega) (by omega) pk2 pj2 w11 w10 wG2 wF2 lb2 la2 S_h4) (cwV 2 hC.1.2.2.2.2 gL_law_X11_fits rfl rfl rfl (by decide +kernel) ⟨Nat.le_of_ble_eq_true rfl, Nat.le_of_ble_eq_true rfl⟩) rfl rfl (Nat.le_of_ble_eq_true rfl) dL_law_224 ⟨show cs + 0 + 0 ≤ 600000 by omega, show ss + 0 + 0 ≤ 7302250 by omega⟩ (fun r15 hi16 h17 hp18 => ?_)
        obtain ⟨ih_h17, fh_h17, S_h17, hr_h17⟩ := hp18
        replace ih_h17 := ih_h17.symm
        subst ih_h17
        have w19 := w6.kept (fun q _ _ => (fh_h17 q (by omega)))
        have w20 := w7.kept (fun q _ _ => (fh_h17 q (by omega)))
        have w21 := w8.kept (fun q _ _ => (fh_h17 q (by omega)))
        have w22 := w9.kept (fun q _ _ => (fh_h17 q (by omega)))
        have w23 := w10.kept (fun q _ _ => (fh_h17 q (by omega)))
        have w24 := w11.kept (fun q _ _ => (fh_h17 q (by omega)))
        have w25 := w12.kept (fun q _ _ => fh_h17 q (by omega))
        have w26 := w13.kept (fun q _ _ => fh_h17 q (by omega))
        rcases hr_h17 with ⟨er_h17, ft_h17⟩ | ⟨er_h17, ft_h17⟩
        · subst er_h17
          refine ax_iconst (v := 1) hC dL_law_227 (by decide) ?_
          refine ax_icmp_ne (tgt := 235) hC dL_law_228 (by decide) (fun c27 => ?_) (fun c27 => ?_)
          · exact absurd c27 (by decide)
          · refine ax_iconst (v := 1) hC dL_law_231 (by decide) ?_
            refine ax_goto (tgt := 236) hC dL_law_232 (by decide) ?_
            refine ax_icmp_ne (tgt := 263) hC dL_law_236 (by decide) (fun c28 => ?_) (fun c28 => ?_)
            · exact absurd c28 (by decide)
            · refine ax_iload hC 0 dL_law_239 rfl ?_
              refine ax_aload_n hC 3 dL_law_241 rfl rfl ?_
              refine ax_iload hC 2 dL_law_242 rfl ?_
              refine ax_iload hC 1 dL_law_244 rfl ?_
              refine ax_iconst (v := (-1)) hC dL_law_246 (by decide) ?_
              refine ax_callVi (st := [.int 1]) hC [.int (nI j), .int (nI k), .int (-1)] w19 rfl (c_X11_witness l D z B lo _ h17 o 0 0 j k a b (nI (pcap F)) (nI (pcap G)) F G pa w19 w20 (by omega) (by omega) pj pk w21 w22 wF wG la lb S_h17 w25) (cwV 3 hC.1.2.2.2.2 gL_law_X11_witness rfl rfl rfl (by decide +kernel) ⟨Nat.le_of_ble_eq_true rfl, Nat.le_of_ble_eq_true rfl⟩) rfl rfl (Nat.le_of_ble_eq_true rfl) dL_law_247 ⟨show cs + 0 + 0 + 0 ≤ 600000 by omega, show ss + 0 + 0 + 0 ≤ 7302250 by omega⟩ (fun r29 hi30 h31 hp32 => ?_)
              obtain ⟨ih_h31, fh_h31, S_h31, H_h31, hr_h31⟩ := hp32
              replace ih_h31 := ih_h31.symm
              subst ih_h31
              have w33 := w19.kept (fun q _ _ => (fh_h31 q (by omega)))
              have w34 := w20.kept (fun q _ _ => (fh_h31 q (by omega)))
              have w35 := w21.kept (fun q _ _ => (fh_h31 q (by omega)))
              have w36 := w22.kept (fun q _ _ => (fh_h31 q (by omega)))
              have w37 := w23.kept (fun q _ _ => (fh_h31 q (by omega)))
              have w38 := w24.kept (fun q _ _ => (fh_h31 q (by omega)))
              have w39 := w26.kept (fun q _ _ => fh_h31 q (by omega))
              rcases hr_h31 with ⟨er_h31, fw_h31⟩ | ⟨er_h31, fw_h31⟩
              · subst er_h31
                refine ax_bipush (v := (-2)) hC dL_law_250 (by decide) ?_
                refine ax_icmp_ne (tgt := 259) hC dL_law_252 (by decide) (fun c40 => ?_) (fun c40 => ?_)
                · exact absurd c40 (by decide)
                · refine ax_iconst (v := 1) hC dL_law_255 (by decide) ?_
                  refine ax_goto (tgt := 260) hC dL_law_256 (by decide) ?_
                  refine ax_icmp_eq (tgt := 265) hC dL_law_260 (by decide) (fun c41 => ?_) (fun c41 => ?_)
                  · refine ax_iconst (v := 1) hC dL_law_265 (by decide) ?_
                    refine ax_istore hC [(9, .int 1), (8, .int 1), (7, .int (nI k)), (6, .int (nI j)), (1, .ref o), (0, .ref (kr 19))] dL_law_266 (by decide) rfl ?_
                    refine ax_locals [0, 1, 2, 3, 4, 5] (L' := [(9, .int 1), (8, .int 1), (7, .int (nI k)), (6, .int (nI j)), (1, .ref o), (0, .ref (kr 19))]) rfl ?_
                    obtain ⟨W9, hMW, hW0⟩ := pair_meet mF mG tG ft_h4
                    refine law_4_1 hC hX w33 w34 ⟨S_h31, H_h31, _, _, _, _, w39⟩ hj hk pj pk2 w35 w38 wF wG2 la lb2 hMW hW0 (by omega) (by omega) (fun h81 fr81 B81 => ?_)
                    have w42 := w33.kept (fun q _ _ => (fr81 q (by omega)))
                    have w43 := w34.kept (fun q _ _ => (fr81 q (by omega)))
                    have w44 := w35.kept (fun q _ _ => (fr81 q (by omega)))
                    have w45 := w36.kept (fun q _ _ => (fr81 q (by omega)))
                    have w46 := w37.kept (fun q _ _ => (fr81 q (by omega)))
                    have w47 := w38.kept (fun q _ _ => (fr81 q (by omega)))
                    refine law_4_2 hC hX w42 w43 B81 hj hk pj pk2 w44 w47 wF wG2 la lb2 hMW hW0 (by omega) (by omega) (fun h82 fr82 B82 => ?_)
                    have w48 := w42.kept (fun q _ _ => (fr82 q (by omega)))
                    have w49 := w43.kept (fun q _ _ => (fr82 q (by omega)))
                    have w50 := w44.kept (fun q _ _ => (fr82 q (by omega)))
                    have w51 := w45.kept (fun q _ _ => (fr82 q (by omega)))
                    have w52 := w46.kept (fun q _ _ => (fr82 q (by omega)))
                    have w53 := w47.kept (fun q _ _ => (fr82 q (by omega)))
                    refine ax_iload hC 0 dL_law_268 rfl ?_
                    refine ax_iconst (v := 3) hC dL_law_270 (by decide) ?_
                    refine ax_icmp_ge (tgt := 362) hC dL_law_271 (by decide) (fun c54 => ?_) (fun c54 => ?_)
                    · refine ax_iinc (v := nI (k + 1)) hC 2 [(7, .int (nI (k + 1))), (9, .int 3), (8, .int 1), (6, .int (nI j)), (1, .ref o), (0, .ref (kr 19))] dL_law_362 rfl (nI_1 _) (by decide) rfl ?_
                      refine ax_goto (tgt := 186) hC dL_law_365 (by decide) ?_
                      refine ax_locals [0, 3, 4, 5] (L' := [(7, .int (nI (k + 1))), (6, .int (nI j)), (1, .ref o), (0, .ref (kr 19))]) rfl ?_
                      exact hK _ (fun q _ => ((fr82 q (by omega)).trans ((fr81 q (by omega)).trans ((fh_h31 q (by omega)).trans ((fh_h17 q (by omega)).trans (fh_h4 q (by omega))))))) B82
                    · exact absurd c54 (by decide)
                  · exact absurd c41 (by decide)
              · exact absurd ft_h4 fw_h31
        · exact absurd ((pair_dual mF tF mG tG).mpr ft_h4) ft_h17
    · subst er_h4
      refine ax_iconst (v := 1) hC dL_law_200 (by decide) ?_
      refine ax_icmp_ne (tgt := 208) hC dL_law_201 (by decide) (fun c56 => ?_) (fun c56 => ?_)
      · refine ax_iconst (v := 0) hC dL_law_208 (by decide) ?_
        refine ax_istore hC [(8, .int 0), (7, .int (nI k)), (6, .int (nI j)), (1, .ref o), (0, .ref (kr 19))] dL_law_209 (by decide) rfl ?_
        refine ax_iload hC 0 dL_law_211 rfl ?_
        refine ax_aload_n hC 3 dL_law_213 rfl rfl ?_
        refine ax_bipush (v := 8) hC dL_law_214 (by decide) ?_
        refine ax_iload hC 1 dL_law_216 rfl ?_
        refine ax_iadd hC dL_law_218 ?_
        refine ax_eqi (y := nI (8 + k)) (nI_add 8 k) ?_
        refine ax_bipush (v := 8) hC dL_law_219 (by decide) ?_
        refine ax_iload hC 2 dL_law_221 rfl ?_
        refine ax_iadd hC dL_law_223 ?_
        refine ax_eqi (y := nI (8 + j)) (nI_add 8 j) ?_
        refine ax_callVi (st := [.int 0]) hC [.int (nI (8 + k)), .int (nI (8 + j))] w6 rfl (c_X11_fits l D z B lo _ h4 o 0 0 (8 + k) (8 + j) b2 a2 (nI (pcap G)) (nI (pcap F)) G2 F2 pa w6 w7 (by omega) (by omega) pk2 pj2 w11 w10 wG2 wF2 lb2 la2 S_h4) (cwV 2 hC.1.2.2.2.2 gL_law_X11_fits rfl rfl rfl (by decide +kernel) ⟨Nat.le_of_ble_eq_true rfl, Nat.le_of_ble_eq_true rfl⟩) rfl rfl (Nat.le_of_ble_eq_true rfl) dL_law_224 ⟨show cs + 0 + 0 ≤ 600000 by omega, show ss + 0 + 0 ≤ 7302250 by omega⟩ (fun r57 hi58 h59 hp60 => ?_)
        obtain ⟨ih_h59, fh_h59, S_h59, hr_h59⟩ := hp60
        replace ih_h59 := ih_h59.symm
        subst ih_h59
        have w61 := w6.kept (fun q _ _ => (fh_h59 q (by omega)))
        have w62 := w7.kept (fun q _ _ => (fh_h59 q (by omega)))
        have w63 := w8.kept (fun q _ _ => (fh_h59 q (by omega)))
        have w64 := w9.kept (fun q _ _ => (fh_h59 q (by omega)))
        have w65 := w10.kept (fun q _ _ => (fh_h59 q (by omega)))
        have w66 := w11.kept (fun q _ _ => (fh_h59 q (by omega)))
        have w67 := w12.kept (fun q _ _ => fh_h59 q (by omega))
        have w68 := w13.kept (fun q _ _ => fh_h59 q (by omega))
        rcases hr_h59 with ⟨er_h59, ft_h59⟩ | ⟨er_h59, ft_h59⟩
        · exact absurd ((pair_dual mF tF mG tG).mp ft_h59) ft_h4
        · subst er_h59
          refine ax_iconst (v := 1) hC dL_law_227 (by decide) ?_
          refine ax_icmp_ne (tgt := 235) hC dL_law_228 (by decide) (fun c69 => ?_) (fun c69 => ?_)
          · refine ax_iconst (v := 0) hC dL_law_235 (by decide) ?_
            refine ax_icmp_ne (tgt := 263) hC dL_law_236 (by decide) (fun c70 => ?_) (fun c70 => ?_)
            · exact absurd c70 (by decide)
            · refine ax_iload hC 0 dL_law_239 rfl ?_
              refine ax_aload_n hC 3 dL_law_241 rfl rfl ?_
              refine ax_iload hC 2 dL_law_242 rfl ?_
              refine ax_iload hC 1 dL_law_244 rfl ?_
              refine ax_iconst (v := (-1)) hC dL_law_246 (by decide) ?_
              refine ax_callVi (st := [.int 0]) hC [.int (nI j), .int (nI k), .int (-1)] w61 rfl (c_X11_witness l D z B lo _ h59 o 0 0 j k a b (nI (pcap F)) (nI (pcap G)) F G pa w61 w62 (by omega) (by omega) pj pk w63 w64 wF wG la lb S_h59 w67) (cwV 3 hC.1.2.2.2.2 gL_law_X11_witness rfl rfl rfl (by decide +kernel) ⟨Nat.le_of_ble_eq_true rfl, Nat.le_of_ble_eq_true rfl⟩) rfl rfl (Nat.le_of_ble_eq_true rfl) dL_law_247 ⟨show cs + 0 + 0 + 0 ≤ 600000 by omega, show ss + 0 + 0 + 0 ≤ 7302250 by omega⟩ (fun r71 hi72 h73 hp74 => ?_)
              obtain ⟨ih_h73, fh_h73, S_h73, H_h73, hr_h73⟩ := hp74
              replace ih_h73 := ih_h73.symm
              subst ih_h73
              have w75 := w61.kept (fun q _ _ => (fh_h73 q (by omega)))
              have w76 := w62.kept (fun q _ _ => (fh_h73 q (by omega)))
              have w77 := w63.kept (fun q _ _ => (fh_h73 q (by omega)))
              have w78 := w64.kept (fun q _ _ => (fh_h73 q (by omega)))
              have w79 := w65.kept (fun q _ _ => (fh_h73 q (by omega)))
              have w80 := w66.kept (fun q _ _ => (fh_h73 q (by omega)))
              have w81 := w68.kept (fun q _ _ => fh_h73 q (by omega))
              rcases hr_h73 with ⟨er_h73, fw_h73⟩ | ⟨er_h73, fw_h73⟩
              · exact absurd fw_h73 ft_h4
              · refine ax_bipush (v := (-2)) hC dL_law_250 (by decide) ?_
                refine ax_icmp_ne (tgt := 259) hC dL_law_252 (by decide) (fun c82 => ?_) (fun c82 => ?_)
                · refine ax_iconst (v := 0) hC dL_law_259 (by decide) ?_
                  refine ax_icmp_eq (tgt := 265) hC dL_law_260 (by decide) (fun c83 => ?_) (fun c83 => ?_)
                  · refine ax_iconst (v := 1) hC dL_law_265 (by decide) ?_
                    refine ax_istore hC [(9, .int 1), (8, .int 0), (7, .int (nI k)), (6, .int (nI j)), (1, .ref o), (0, .ref (kr 19))] dL_law_266 (by decide) rfl ?_
                    refine ax_iload hC 0 dL_law_268 rfl ?_
                    refine ax_iconst (v := 3) hC dL_law_270 (by decide) ?_
                    refine ax_icmp_ge (tgt := 362) hC dL_law_271 (by decide) (fun c84 => ?_) (fun c84 => ?_)
                    · exact absurd c84 (by decide)
                    · refine ax_iload hC 1 dL_law_274 rfl ?_
                      refine ax_if_eq (tgt := 362) hC dL_law_276 (by decide) (fun c85 => ?_) (fun c85 => ?_)
                      · refine ax_iinc (v := nI (k + 1)) hC 2 [(7, .int (nI (k + 1))), (9, .int 1), (8, .int 0), (6, .int (nI j)), (1, .ref o), (0, .ref (kr 19))] dL_law_362 rfl (nI_1 _) (by decide) rfl ?_
                        refine ax_goto (tgt := 186) hC dL_law_365 (by decide) ?_
                        refine ax_locals [0, 3, 4, 5] (L' := [(7, .int (nI (k + 1))), (6, .int (nI j)), (1, .ref o), (0, .ref (kr 19))]) rfl ?_
                        exact hK _ (fun q _ => ((fh_h73 q (by omega)).trans ((fh_h59 q (by omega)).trans (fh_h4 q (by omega))))) ⟨S_h73, H_h73, _, _, _, _, w81⟩
                      · exact absurd c85 (by decide)
                  · exact absurd c83 (by decide)
                · exact absurd c82 er_h73
          · exact absurd c69 (by decide)
      · exact absurd c56 (by decide)

set_option maxRecDepth 100000 in
set_option maxHeartbeats 4000000 in
theorem law_5x {p : Program} {l : Launch} {e : Env} {s : State} {m : MethodId} {args : Array Value} {below : List Frame} {meth : Method} {c : Code} {D : va_G} {z : Nat → ClassId} {B : Heap} {lo : Nat} {kr kv : Nat → Nat} {Q : State → Prop} (hC : Cx p s m args c cL_law 10 wsL_law RL D vwCl (ty6 z)) (hX : XSw lo B kr kv s) {hi o : Nat} {h : Nat → Option va_E} {cs ss j k : Nat} (hk : k = 5) (hj : j < 5) (hK : Gx p l e room_1 s m args below meth c D vwCl B lo 10 Q hi h cs ss [(6, .int (nI (j + 1))), (1, .ref o), (0, .ref (kr 19))] 177 []) : Gx p l e room_1 s m args below meth c D vwCl B lo 10 Q hi h cs ss [(7, .int (nI k)), (6, .int (nI j)), (1, .ref o), (0, .ref (kr 19))] 186 [] := by
  refine ax_iload hC 0 dL_law_186 rfl ?_
  refine ax_iconst (v := 5) hC dL_law_188 (by decide) ?_
  refine ax_icmp_ge (tgt := 368) hC dL_law_189 (by decide) (fun c1 => ?_) (fun c1 => ?_)
  · refine ax_iinc (v := nI (j + 1)) hC 1 [(6, .int (nI (j + 1))), (7, .int (nI k)), (1, .ref o), (0, .ref (kr 19))] dL_law_368 rfl (nI_1 _) (by decide) rfl ?_
    refine ax_goto (tgt := 177) hC dL_law_371 (by decide) ?_
    refine ax_locals [0, 2, 3] (L' := [(6, .int (nI (j + 1))), (1, .ref o), (0, .ref (kr 19))]) rfl ?_
    exact hK
  · exact absurd (nI_le (a := 5) (by omega) (by omega)) c1

set_option maxRecDepth 100000 in
set_option maxHeartbeats 4000000 in
theorem law_5i {p : Program} {l : Launch} {e : Env} {s : State} {m : MethodId} {args : Array Value} {below : List Frame} {meth : Method} {c : Code} {D : va_G} {z : Nat → ClassId} {B : Heap} {lo : Nat} {kr kv : Nat → Nat} {Q : State → Prop} (hC : Cx p s m args c cL_law 10 wsL_law RL D vwCl (ty6 z)) (hX : XSw lo B kr kv s) {hi o : Nat} {h : Nat → Option va_E} {cs ss j : Nat} (hj : j < 5) (hK : Gx p l e room_1 s m args below meth c D vwCl B lo 10 Q hi h cs ss [(7, .int 0), (6, .int (nI j)), (1, .ref o), (0, .ref (kr 19))] 186 []) : Gx p l e room_1 s m args below meth c D vwCl B lo 10 Q hi h cs ss [(6, .int (nI j)), (1, .ref o), (0, .ref (kr 19))] 177 [] := by
  refine ax_iload hC 0 dL_law_177 rfl ?_
  refine ax_iconst (v := 5) hC dL_law_179 (by decide) ?_
  refine ax_icmp_ge (tgt := 374) hC dL_law_180 (by decide) (fun c1 => ?_) (fun c1 => ?_)
  · exact absurd ((nI_leI (a := 5) (by decide) (by omega)).mp c1) (by omega)
  · refine ax_iconst (v := 0) hC dL_law_183 (by decide) ?_
    refine ax_istore hC [(7, .int 0), (6, .int (nI j)), (1, .ref o), (0, .ref (kr 19))] dL_law_184 (by decide) rfl ?_
    refine ax_locals [0, 1, 2, 3] (L' := [(7, .int 0), (6, .int (nI j)), (1, .ref o), (0, .ref (kr 19))]) rfl ?_
    exact hK

set_option maxRecDepth 100000 in
set_option maxHeartbeats 4000000 in
theorem law_5o {p : Program} {l : Launch} {e : Env} {s : State} {m : MethodId} {args : Array Value} {below : List Frame} {meth : Method} {c : Code} {D : va_G} {z : Nat → ClassId} {B : Heap} {lo : Nat} {kr kv : Nat → Nat} {Q : State → Prop} (hC : Cx p s m args c cL_law 10 wsL_law RL D vwCl (ty6 z)) (hX : XSw lo B kr kv s) {hi o : Nat} {h : Nat → Option va_E} {cs ss j : Nat} (hj : j = 5) (hK : Gx p l e room_1 s m args below meth c D vwCl B lo 10 Q hi h cs ss [(1, .ref o), (0, .ref (kr 19))] 374 []) : Gx p l e room_1 s m args below meth c D vwCl B lo 10 Q hi h cs ss [(6, .int (nI j)), (1, .ref o), (0, .ref (kr 19))] 177 [] := by
  refine ax_iload hC 0 dL_law_177 rfl ?_
  refine ax_iconst (v := 5) hC dL_law_179 (by decide) ?_
  refine ax_icmp_ge (tgt := 374) hC dL_law_180 (by decide) (fun c1 => ?_) (fun c1 => ?_)
  · refine ax_locals [1, 2] (L' := [(1, .ref o), (0, .ref (kr 19))]) rfl ?_
    exact hK
  · exact absurd (nI_le (a := 5) (by omega) (by omega)) c1

theorem law_5K {p : Program} {l : Launch} {e : Env} {s : State} {m : MethodId} {args : Array Value} {below : List Frame} {meth : Method} {c : Code} {D : va_G} {z : Nat → ClassId} {B : Heap} {lo : Nat} {kr kv : Nat → Nat} {Q : State → Prop} (hC : Cx p s m args c cL_law 10 wsL_law RL D vwCl (ty6 z)) (hX : XSw lo B kr kv s) {hi o : Nat} {pa : Nat → Option Nat} {cs ss : Nat} {nv : Nat → Nat} {wv : Nat → Bool} {TT : Nat → Tre} {j : Nat} (hj : j < 5) (hcs : cs ≤ 10000) (hss : ss ≤ 1000000) : ∀ (n k : Nat) (h : Nat → Option va_E), k + n = 5 → ObS h o 0 0 → PsS z h o pa → WB z h o → Prs z h o hi pa nv wv TT 5 → o + 147 ≤ hi → (∀ h9 : Nat → Option va_E, (∀ q, (q < o + 23 ∨ o + 40 ≤ q) → h9 q = h q) → WB z h9 o → Gx p l e room_1 s m args below meth c D vwCl B lo 10 Q hi h9 cs ss [(6, .int (nI (j + 1))), (1, .ref o), (0, .ref (kr 19))] 177 []) → Gx p l e room_1 s m args below meth c D vwCl B lo 10 Q hi h cs ss [(7, .int (nI k)), (6, .int (nI j)), (1, .ref o), (0, .ref (kr 19))] 186 [] := by
  intro n
  induction n with
  | zero =>
    intro k h ek hO hPs hB hP hb hK
    exact law_5x hC hX (by omega) hj (hK h (fun _ _ => rfl) hB)
  | succ n ih =>
    intro k h ek hO hPs hB hP hb hK
    exact law_5 hC hX hO hPs hB hP hj (by omega) hcs hss (fun h9 hf hB9 => ih (k + 1) h9 (by omega) (hO.kept (fun q _ _ => hf q (by omega))) (hPs.kept (fun q _ _ => hf q (by omega))) hB9 (hP.kept (fun q _ _ => hf q (by omega))) hb (fun h8 hf8 hB8 => hK h8 (fun q hq => (hf8 q hq).trans (hf q hq)) hB8))

theorem law_5J {p : Program} {l : Launch} {e : Env} {s : State} {m : MethodId} {args : Array Value} {below : List Frame} {meth : Method} {c : Code} {D : va_G} {z : Nat → ClassId} {B : Heap} {lo : Nat} {kr kv : Nat → Nat} {Q : State → Prop} (hC : Cx p s m args c cL_law 10 wsL_law RL D vwCl (ty6 z)) (hX : XSw lo B kr kv s) {hi o : Nat} {pa : Nat → Option Nat} {cs ss : Nat} {nv : Nat → Nat} {wv : Nat → Bool} {TT : Nat → Tre} (hcs : cs ≤ 10000) (hss : ss ≤ 1000000) : ∀ (n j : Nat) (h : Nat → Option va_E), j + n = 5 → ObS h o 0 0 → PsS z h o pa → WB z h o → Prs z h o hi pa nv wv TT 5 → o + 147 ≤ hi → (∀ h9 : Nat → Option va_E, (∀ q, (q < o + 23 ∨ o + 40 ≤ q) → h9 q = h q) → WB z h9 o → Gx p l e room_1 s m args below meth c D vwCl B lo 10 Q hi h9 cs ss [(1, .ref o), (0, .ref (kr 19))] 374 []) → Gx p l e room_1 s m args below meth c D vwCl B lo 10 Q hi h cs ss [(6, .int (nI j)), (1, .ref o), (0, .ref (kr 19))] 177 [] := by
  intro n
  induction n with
  | zero =>
    intro j h ek hO hPs hB hP hb hK
    exact law_5o hC hX (by omega) (hK h (fun _ _ => rfl) hB)
  | succ n ih =>
    intro j h ek hO hPs hB hP hb hK
    exact law_5i hC hX (by omega) (law_5K hC hX (by omega) hcs hss 5 0 h (by omega) hO hPs hB hP hb (fun h9 hf hB9 => ih (j + 1) h9 (by omega) (hO.kept (fun q _ _ => hf q (by omega))) (hPs.kept (fun q _ _ => hf q (by omega))) hB9 (hP.kept (fun q _ _ => hf q (by omega))) hb (fun h8 hf8 hB8 => hK h8 (fun q hq => (hf8 q hq).trans (hf q hq)) hB8)))
