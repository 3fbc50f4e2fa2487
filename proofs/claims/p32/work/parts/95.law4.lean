set_option maxRecDepth 100000 in
set_option maxHeartbeats 4000000 in
theorem law_4_1 {p : Program} {l : Launch} {e : Env} {s : State} {m : MethodId} {args : Array Value} {below : List Frame} {meth : Method} {c : Code} {D : va_G} {z : Nat → ClassId} {B : Heap} {lo : Nat} {kr kv : Nat → Nat} {Q : State → Prop} (hC : Cx p s m args c cL_law 10 wsL_law RL D vwCl (ty6 z)) (hX : XSw lo B kr kv s) {hi o : Nat} {h : Nat → Option va_E} {pa : Nat → Option Nat} {cs ss j k a b : Nat} {nd1 nd2 : Int32} {F G : PT} {W : Nat → Nat → Prop} (hO : ObS h o 0 0) (hPs : PsS z h o pa) (hB : WB z h o) (hj : j < 5) (hk : k < 5) (hpj : pa j = some a) (hpk : pa (8 + k) = some b) (hF : PrC z h a nd1 F) (hG : PrC z h b nd2 G) (hwF : wfP F) (hwG : wfP G) (hbF : o + 147 ≤ a) (hbG : o + 147 ≤ b) (hMW : MeetW F G W) (hW0 : W (sN F 0) (sN G 0)) (hcs : cs ≤ 10000) (hss : ss ≤ 1000000) (hK : ∀ (h9 : Nat → Option va_E), (∀ q, (q < o + 23 ∨ o + 40 ≤ q) → h9 q = h q) → WB z h9 o → Gx p l e room_1 s m args below meth c D vwCl B lo 10 Q hi h9 cs ss [(9, .int 2), (8, .int 1), (7, .int (nI k)), (6, .int (nI j)), (1, .ref o), (0, .ref (kr 19))] 268 []) : Gx p l e room_1 s m args below meth c D vwCl B lo 10 Q hi h cs ss [(9, .int 1), (8, .int 1), (7, .int (nI k)), (6, .int (nI j)), (1, .ref o), (0, .ref (kr 19))] 268 [] := by
  obtain ⟨hS, hH, t90, t91, nr9, ov9, hM⟩ := hB
  refine ax_iload hC 0 dL_law_268 rfl ?_
  refine ax_iconst (v := 3) hC dL_law_270 (by decide) ?_
  refine ax_icmp_ge (tgt := 362) hC dL_law_271 (by decide) (fun c1 => ?_) (fun c1 => ?_)
  · exact absurd c1 (by decide)
  · refine ax_iload hC 1 dL_law_274 rfl ?_
    refine ax_if_eq (tgt := 362) hC dL_law_276 (by decide) (fun c2 => ?_) (fun c2 => ?_)
    · exact absurd c2 (by decide)
    · refine ax_aload_n hC 4 dL_law_279 rfl rfl ?_
      refine ax_iload hC 3 dL_law_280 rfl ?_
      refine ax_bipush (v := 8) hC dL_law_282 (by decide) ?_
      refine ax_iload hC 2 dL_law_284 rfl ?_
      refine ax_iadd hC dL_law_286 ?_
      refine ax_eqi (y := nI (8 + k)) (nI_add 8 k) ?_
      refine ax_iload hC 0 dL_law_287 rfl ?_
      refine ax_iconst (v := 0) hC dL_law_289 (by decide) ?_
      refine ax_callVi (st := []) hC [.int (nI j), .int (nI (8 + k)), .int 1, .int 0] hO rfl (c_X11_meet_0 l D z B lo _ h o 0 0 j (8 + k) a b nd1 nd2 F G pa 1 W nr9 ov9 t90 t91 hO hPs (by omega) (by omega) hpj hpk hF hG hwF hwG hbF hbG hS hM hMW hW0 (Or.inl rfl)) (cwV 4 hC.1.2.2.2.2 gL_law_X11_meet rfl rfl rfl (by decide +kernel) ⟨Nat.le_of_ble_eq_true rfl, Nat.le_of_ble_eq_true rfl⟩) rfl rfl (Nat.le_of_ble_eq_true rfl) dL_law_290 ⟨show cs + 0 ≤ 600000 by omega, show ss + 0 ≤ 7302250 by omega⟩ (fun r3 hi4 h5 hp6 => ?_)
      obtain ⟨ih_h5, fh_h5, S_h5, ov_h5, M_h5, hr_h5⟩ := hp6
      replace ih_h5 := ih_h5.symm
      subst ih_h5
      have w7 := hO.kept (fun q _ _ => (fh_h5 q (by omega)))
      have w8 := hPs.kept (fun q _ _ => (fh_h5 q (by omega)))
      have w9 := hF.kept (fun q _ _ => (fh_h5 q (by omega)))
      have w10 := hG.kept (fun q _ _ => (fh_h5 q (by omega)))
      have w11 := hH.kept (fun q _ _ => fh_h5 q (by omega))
      rcases hr_h5 with hr_h5 | hr_h5
      · subst hr_h5
        refine ax_bipush (v := (-3)) hC dL_law_293 (by decide) ?_
        refine ax_icmp_ne (tgt := 301) hC dL_law_295 (by decide) (fun c12 => ?_) (fun c12 => ?_)
        · exact absurd c12 (by decide)
        · refine ax_goto (tgt := 356) hC dL_law_298 (by decide) ?_
          refine ax_iinc (v := 2) hC 0 [(9, .int 2), (8, .int 1), (7, .int (nI k)), (6, .int (nI j)), (1, .ref o), (0, .ref (kr 19))] dL_law_356 rfl (by decide) (by decide) rfl ?_
          refine ax_goto (tgt := 268) hC dL_law_359 (by decide) ?_
          refine ax_locals [0, 1, 2, 3, 4, 5] (L' := [(9, .int 2), (8, .int 1), (7, .int (nI k)), (6, .int (nI j)), (1, .ref o), (0, .ref (kr 19))]) rfl ?_
          exact hK _ (fun q _ => (fh_h5 q (by omega))) ⟨S_h5, w11, _, _, _, _, M_h5⟩
      · subst hr_h5
        refine ax_bipush (v := (-3)) hC dL_law_293 (by decide) ?_
        refine ax_icmp_ne (tgt := 301) hC dL_law_295 (by decide) (fun c14 => ?_) (fun c14 => ?_)
        · refine ax_aload_n hC 4 dL_law_301 rfl rfl ?_
          refine ax_iload hC 3 dL_law_302 rfl ?_
          refine ax_bipush (v := 8) hC dL_law_304 (by decide) ?_
          refine ax_iload hC 2 dL_law_306 rfl ?_
          refine ax_iadd hC dL_law_308 ?_
          refine ax_eqi (y := nI (8 + k)) (nI_add 8 k) ?_
          refine ax_iload hC 0 dL_law_309 rfl ?_
          refine ax_iconst (v := 1) hC dL_law_311 (by decide) ?_
          refine ax_callVi (st := []) hC [.int (nI j), .int (nI (8 + k)), .int 1, .int 1] w7 rfl (c_X11_meet_1 l D z B lo _ h5 o 0 0 j (8 + k) a b nd1 nd2 F G pa 1 W w7 w8 (by omega) (by omega) hpj hpk w9 w10 hwF hwG hbF hbG S_h5 M_h5 hMW hW0 (Or.inl rfl)) (cwV 4 hC.1.2.2.2.2 gL_law_X11_meet rfl rfl rfl (by decide +kernel) ⟨Nat.le_of_ble_eq_true rfl, Nat.le_of_ble_eq_true rfl⟩) rfl rfl (Nat.le_of_ble_eq_true rfl) dL_law_312 ⟨show cs + 0 + 0 ≤ 600000 by omega, show ss + 0 + 0 ≤ 7302250 by omega⟩ (fun r15 hi16 h17 hp18 => ?_)
          obtain ⟨rfl, ih_h17, fh_h17, S_h17, M_h17⟩ := hp18
          replace ih_h17 := ih_h17.symm
          subst ih_h17
          have w19 := w7.kept (fun q _ _ => (fh_h17 q (by omega)))
          have w20 := w8.kept (fun q _ _ => (fh_h17 q (by omega)))
          have w21 := w9.kept (fun q _ _ => (fh_h17 q (by omega)))
          have w22 := w10.kept (fun q _ _ => (fh_h17 q (by omega)))
          have w23 := w11.kept (fun q _ _ => fh_h17 q (by omega))
          refine ax_if_ne (tgt := 354) hC dL_law_315 (by decide) (fun c24 => ?_) (fun c24 => ?_)
          · exact absurd c24 (by decide)
          · refine ax_aload_n hC 4 dL_law_318 rfl rfl ?_
            refine ax_iload hC 3 dL_law_319 rfl ?_
            refine ax_bipush (v := 8) hC dL_law_321 (by decide) ?_
            refine ax_iload hC 2 dL_law_323 rfl ?_
            refine ax_iadd hC dL_law_325 ?_
            refine ax_eqi (y := nI (8 + k)) (nI_add 8 k) ?_
            refine ax_iload hC 0 dL_law_326 rfl ?_
            refine ax_iconst (v := 2) hC dL_law_328 (by decide) ?_
            refine ax_callVi (st := []) hC [.int (nI j), .int (nI (8 + k)), .int 1, .int 2] w19 rfl (c_X11_meet_2 l D z B lo _ h17 o 0 0 j (8 + k) a b nd1 nd2 F G pa 1 W w19 w20 (by omega) (by omega) hpj hpk w21 w22 hwF hwG hbF hbG S_h17 M_h17 hMW hW0 (Or.inl rfl)) (cwV 4 hC.1.2.2.2.2 gL_law_X11_meet rfl rfl rfl (by decide +kernel) ⟨Nat.le_of_ble_eq_true rfl, Nat.le_of_ble_eq_true rfl⟩) rfl rfl (Nat.le_of_ble_eq_true rfl) dL_law_329 ⟨show cs + 0 + 0 + 0 ≤ 600000 by omega, show ss + 0 + 0 + 0 ≤ 7302250 by omega⟩ (fun r25 hi26 h27 hp28 => ?_)
            obtain ⟨rfl, ih_h27, fh_h27, S_h27, M_h27⟩ := hp28
            replace ih_h27 := ih_h27.symm
            subst ih_h27
            have w29 := w19.kept (fun q _ _ => (fh_h27 q (by omega)))
            have w30 := w20.kept (fun q _ _ => (fh_h27 q (by omega)))
            have w31 := w21.kept (fun q _ _ => (fh_h27 q (by omega)))
            have w32 := w22.kept (fun q _ _ => (fh_h27 q (by omega)))
            have w33 := w23.kept (fun q _ _ => fh_h27 q (by omega))
            refine ax_if_ne (tgt := 354) hC dL_law_332 (by decide) (fun c34 => ?_) (fun c34 => ?_)
            · exact absurd c34 (by decide)
            · refine ax_aload_n hC 4 dL_law_335 rfl rfl ?_
              refine ax_iload hC 3 dL_law_336 rfl ?_
              refine ax_bipush (v := 8) hC dL_law_338 (by decide) ?_
              refine ax_iload hC 2 dL_law_340 rfl ?_
              refine ax_iadd hC dL_law_342 ?_
              refine ax_eqi (y := nI (8 + k)) (nI_add 8 k) ?_
              refine ax_iload hC 0 dL_law_343 rfl ?_
              refine ax_iconst (v := 3) hC dL_law_345 (by decide) ?_
              refine ax_callVi (st := []) hC [.int (nI j), .int (nI (8 + k)), .int 1, .int 3] w29 rfl (c_X11_meet_3 l D z B lo _ h27 o 0 0 j (8 + k) a b nd1 nd2 F G pa 1 W w29 w30 (by omega) (by omega) hpj hpk w31 w32 hwF hwG hbF hbG S_h27 M_h27 hMW hW0 (Or.inl rfl)) (cwV 4 hC.1.2.2.2.2 gL_law_X11_meet rfl rfl rfl (by decide +kernel) ⟨Nat.le_of_ble_eq_true rfl, Nat.le_of_ble_eq_true rfl⟩) rfl rfl (Nat.le_of_ble_eq_true rfl) dL_law_346 ⟨show cs + 0 + 0 + 0 + 0 ≤ 600000 by omega, show ss + 0 + 0 + 0 + 0 ≤ 7302250 by omega⟩ (fun r35 hi36 h37 hp38 => ?_)
              obtain ⟨rfl, ih_h37, fh_h37, S_h37, M_h37⟩ := hp38
              replace ih_h37 := ih_h37.symm
              subst ih_h37
              have w39 := w29.kept (fun q _ _ => (fh_h37 q (by omega)))
              have w40 := w30.kept (fun q _ _ => (fh_h37 q (by omega)))
              have w41 := w31.kept (fun q _ _ => (fh_h37 q (by omega)))
              have w42 := w32.kept (fun q _ _ => (fh_h37 q (by omega)))
              have w43 := w33.kept (fun q _ _ => fh_h37 q (by omega))
              refine ax_bipush (v := (-2)) hC dL_law_349 (by decide) ?_
              refine ax_icmp_eq (tgt := 356) hC dL_law_351 (by decide) (fun c44 => ?_) (fun c44 => ?_)
              · refine ax_iinc (v := 2) hC 0 [(9, .int 2), (8, .int 1), (7, .int (nI k)), (6, .int (nI j)), (1, .ref o), (0, .ref (kr 19))] dL_law_356 rfl (by decide) (by decide) rfl ?_
                refine ax_goto (tgt := 268) hC dL_law_359 (by decide) ?_
                refine ax_locals [0, 1, 2, 3, 4, 5] (L' := [(9, .int 2), (8, .int 1), (7, .int (nI k)), (6, .int (nI j)), (1, .ref o), (0, .ref (kr 19))]) rfl ?_
                exact hK _ (fun q _ => ((fh_h37 q (by omega)).trans ((fh_h27 q (by omega)).trans ((fh_h17 q (by omega)).trans (fh_h5 q (by omega)))))) ⟨S_h37, w43, _, _, _, _, M_h37⟩
              · exact absurd c44 (by decide)
        · refine ax_goto (tgt := 356) hC dL_law_298 (by decide) ?_
          refine ax_iinc (v := 2) hC 0 [(9, .int 2), (8, .int 1), (7, .int (nI k)), (6, .int (nI j)), (1, .ref o), (0, .ref (kr 19))] dL_law_356 rfl (by decide) (by decide) rfl ?_
          refine ax_goto (tgt := 268) hC dL_law_359 (by decide) ?_
          refine ax_locals [0, 1, 2, 3, 4, 5] (L' := [(9, .int 2), (8, .int 1), (7, .int (nI k)), (6, .int (nI j)), (1, .ref o), (0, .ref (kr 19))]) rfl ?_
          exact hK _ (fun q _ => (fh_h5 q (by omega))) ⟨S_h5, w11, _, _, _, _, M_h5⟩

set_option maxRecDepth 100000 in
set_option maxHeartbeats 4000000 in
theorem law_4_2 {p : Program} {l : Launch} {e : Env} {s : State} {m : MethodId} {args : Array Value} {below : List Frame} {meth : Method} {c : Code} {D : va_G} {z : Nat → ClassId} {B : Heap} {lo : Nat} {kr kv : Nat → Nat} {Q : State → Prop} (hC : Cx p s m args c cL_law 10 wsL_law RL D vwCl (ty6 z)) (hX : XSw lo B kr kv s) {hi o : Nat} {h : Nat → Option va_E} {pa : Nat → Option Nat} {cs ss j k a b : Nat} {nd1 nd2 : Int32} {F G : PT} {W : Nat → Nat → Prop} (hO : ObS h o 0 0) (hPs : PsS z h o pa) (hB : WB z h o) (hj : j < 5) (hk : k < 5) (hpj : pa j = some a) (hpk : pa (8 + k) = some b) (hF : PrC z h a nd1 F) (hG : PrC z h b nd2 G) (hwF : wfP F) (hwG : wfP G) (hbF : o + 147 ≤ a) (hbG : o + 147 ≤ b) (hMW : MeetW F G W) (hW0 : W (sN F 0) (sN G 0)) (hcs : cs ≤ 10000) (hss : ss ≤ 1000000) (hK : ∀ (h9 : Nat → Option va_E), (∀ q, (q < o + 23 ∨ o + 40 ≤ q) → h9 q = h q) → WB z h9 o → Gx p l e room_1 s m args below meth c D vwCl B lo 10 Q hi h9 cs ss [(9, .int 3), (8, .int 1), (7, .int (nI k)), (6, .int (nI j)), (1, .ref o), (0, .ref (kr 19))] 268 []) : Gx p l e room_1 s m args below meth c D vwCl B lo 10 Q hi h cs ss [(9, .int 2), (8, .int 1), (7, .int (nI k)), (6, .int (nI j)), (1, .ref o), (0, .ref (kr 19))] 268 [] := by
  obtain ⟨hS, hH, t90, t91, nr9, ov9, hM⟩ := hB
  refine ax_iload hC 0 dL_law_268 rfl ?_
  refine ax_iconst (v := 3) hC dL_law_270 (by decide) ?_
  refine ax_icmp_ge (tgt := 362) hC dL_law_271 (by decide) (fun c1 => ?_) (fun c1 => ?_)
  · exact absurd c1 (by decide)
  · refine ax_iload hC 1 dL_law_274 rfl ?_
    refine ax_if_eq (tgt := 362) hC dL_law_276 (by decide) (fun c2 => ?_) (fun c2 => ?_)
    · exact absurd c2 (by decide)
    · refine ax_aload_n hC 4 dL_law_279 rfl rfl ?_
      refine ax_iload hC 3 dL_law_280 rfl ?_
      refine ax_bipush (v := 8) hC dL_law_282 (by decide) ?_
      refine ax_iload hC 2 dL_law_284 rfl ?_
      refine ax_iadd hC dL_law_286 ?_
      refine ax_eqi (y := nI (8 + k)) (nI_add 8 k) ?_
      refine ax_iload hC 0 dL_law_287 rfl ?_
      refine ax_iconst (v := 0) hC dL_law_289 (by decide) ?_
      refine ax_callVi (st := []) hC [.int (nI j), .int (nI (8 + k)), .int 2, .int 0] hO rfl (c_X11_meet_0 l D z B lo _ h o 0 0 j (8 + k) a b nd1 nd2 F G pa 2 W nr9 ov9 t90 t91 hO hPs (by omega) (by omega) hpj hpk hF hG hwF hwG hbF hbG hS hM hMW hW0 (Or.inr rfl)) (cwV 4 hC.1.2.2.2.2 gL_law_X11_meet rfl rfl rfl (by decide +kernel) ⟨Nat.le_of_ble_eq_true rfl, Nat.le_of_ble_eq_true rfl⟩) rfl rfl (Nat.le_of_ble_eq_true rfl) dL_law_290 ⟨show cs + 0 ≤ 600000 by omega, show ss + 0 ≤ 7302250 by omega⟩ (fun r3 hi4 h5 hp6 => ?_)
      obtain ⟨ih_h5, fh_h5, S_h5, ov_h5, M_h5, hr_h5⟩ := hp6
      replace ih_h5 := ih_h5.symm
      subst ih_h5
      have w7 := hO.kept (fun q _ _ => (fh_h5 q (by omega)))
      have w8 := hPs.kept (fun q _ _ => (fh_h5 q (by omega)))
      have w9 := hF.kept (fun q _ _ => (fh_h5 q (by omega)))
      have w10 := hG.kept (fun q _ _ => (fh_h5 q (by omega)))
      have w11 := hH.kept (fun q _ _ => fh_h5 q (by omega))
      rcases hr_h5 with hr_h5 | hr_h5
      · subst hr_h5
        refine ax_bipush (v := (-3)) hC dL_law_293 (by decide) ?_
        refine ax_icmp_ne (tgt := 301) hC dL_law_295 (by decide) (fun c12 => ?_) (fun c12 => ?_)
        · exact absurd c12 (by decide)
        · refine ax_goto (tgt := 356) hC dL_law_298 (by decide) ?_
          refine ax_iinc (v := 3) hC 0 [(9, .int 3), (8, .int 1), (7, .int (nI k)), (6, .int (nI j)), (1, .ref o), (0, .ref (kr 19))] dL_law_356 rfl (by decide) (by decide) rfl ?_
          refine ax_goto (tgt := 268) hC dL_law_359 (by decide) ?_
          refine ax_locals [0, 1, 2, 3, 4, 5] (L' := [(9, .int 3), (8, .int 1), (7, .int (nI k)), (6, .int (nI j)), (1, .ref o), (0, .ref (kr 19))]) rfl ?_
          exact hK _ (fun q _ => (fh_h5 q (by omega))) ⟨S_h5, w11, _, _, _, _, M_h5⟩
      · subst hr_h5
        refine ax_bipush (v := (-3)) hC dL_law_293 (by decide) ?_
        refine ax_icmp_ne (tgt := 301) hC dL_law_295 (by decide) (fun c14 => ?_) (fun c14 => ?_)
        · refine ax_aload_n hC 4 dL_law_301 rfl rfl ?_
          refine ax_iload hC 3 dL_law_302 rfl ?_
          refine ax_bipush (v := 8) hC dL_law_304 (by decide) ?_
          refine ax_iload hC 2 dL_law_306 rfl ?_
          refine ax_iadd hC dL_law_308 ?_
          refine ax_eqi (y := nI (8 + k)) (nI_add 8 k) ?_
          refine ax_iload hC 0 dL_law_309 rfl ?_
          refine ax_iconst (v := 1) hC dL_law_311 (by decide) ?_
          refine ax_callVi (st := []) hC [.int (nI j), .int (nI (8 + k)), .int 2, .int 1] w7 rfl (c_X11_meet_1 l D z B lo _ h5 o 0 0 j (8 + k) a b nd1 nd2 F G pa 2 W w7 w8 (by omega) (by omega) hpj hpk w9 w10 hwF hwG hbF hbG S_h5 M_h5 hMW hW0 (Or.inr rfl)) (cwV 4 hC.1.2.2.2.2 gL_law_X11_meet rfl rfl rfl (by decide +kernel) ⟨Nat.le_of_ble_eq_true rfl, Nat.le_of_ble_eq_true rfl⟩) rfl rfl (Nat.le_of_ble_eq_true rfl) dL_law_312 ⟨show cs + 0 + 0 ≤ 600000 by omega, show ss + 0 + 0 ≤ 7302250 by omega⟩ (fun r15 hi16 h17 hp18 => ?_)
          obtain ⟨rfl, ih_h17, fh_h17, S_h17, M_h17⟩ := hp18
          replace ih_h17 := ih_h17.symm
          subst ih_h17
          have w19 := w7.kept (fun q _ _ => (fh_h17 q (by omega)))
          have w20 := w8.kept (fun q _ _ => (fh_h17 q (by omega)))
          have w21 := w9.kept (fun q _ _ => (fh_h17 q (by omega)))
          have w22 := w10.kept (fun q _ _ => (fh_h17 q (by omega)))
          have w23 := w11.kept (fun q _ _ => fh_h17 q (by omega))
          refine ax_if_ne (tgt := 354) hC dL_law_315 (by decide) (fun c24 => ?_) (fun c24 => ?_)
          · exact absurd c24 (by decide)
          · refine ax_aload_n hC 4 dL_law_318 rfl rfl ?_
            refine ax_iload hC 3 dL_law_319 rfl ?_
            refine ax_bipush (v := 8) hC dL_law_321 (by decide) ?_
            refine ax_iload hC 2 dL_law_323 rfl ?_
            refine ax_iadd hC dL_law_325 ?_
            refine ax_eqi (y := nI (8 + k)) (nI_add 8 k) ?_
            refine ax_iload hC 0 dL_law_326 rfl ?_
            refine ax_iconst (v := 2) hC dL_law_328 (by decide) ?_
            refine ax_callVi (st := []) hC [.int (nI j), .int (nI (8 + k)), .int 2, .int 2] w19 rfl (c_X11_meet_2 l D z B lo _ h17 o 0 0 j (8 + k) a b nd1 nd2 F G pa 2 W w19 w20 (by omega) (by omega) hpj hpk w21 w22 hwF hwG hbF hbG S_h17 M_h17 hMW hW0 (Or.inr rfl)) (cwV 4 hC.1.2.2.2.2 gL_law_X11_meet rfl rfl rfl (by decide +kernel) ⟨Nat.le_of_ble_eq_true rfl, Nat.le_of_ble_eq_true rfl⟩) rfl rfl (Nat.le_of_ble_eq_true rfl) dL_law_329 ⟨show cs + 0 + 0 + 0 ≤ 600000 by omega, show ss + 0 + 0 + 0 ≤ 7302250 by omega⟩ (fun r25 hi26 h27 hp28 => ?_)
            obtain ⟨rfl, ih_h27, fh_h27, S_h27, M_h27⟩ := hp28
            replace ih_h27 := ih_h27.symm
            subst ih_h27
            have w29 := w19.kept (fun q _ _ => (fh_h27 q (by omega)))
            have w30 := w20.kept (fun q _ _ => (fh_h27 q (by omega)))
            have w31 := w21.kept (fun q _ _ => (fh_h27 q (by omega)))
            have w32 := w22.kept (fun q _ _ => (fh_h27 q (by omega)))
            have w33 := w23.kept (fun q _ _ => fh_h27 q (by omega))
            refine ax_if_ne (tgt := 354) hC dL_law_332 (by decide) (fun c34 => ?_) (fun c34 => ?_)
            · exact absurd c34 (by decide)
            · refine ax_aload_n hC 4 dL_law_335 rfl rfl ?_
              refine ax_iload hC 3 dL_law_336 rfl ?_
              refine ax_bipush (v := 8) hC dL_law_338 (by decide) ?_
              refine ax_iload hC 2 dL_law_340 rfl ?_
              refine ax_iadd hC dL_law_342 ?_
              refine ax_eqi (y := nI (8 + k)) (nI_add 8 k) ?_
              refine ax_iload hC 0 dL_law_343 rfl ?_
              refine ax_iconst (v := 3) hC dL_law_345 (by decide) ?_
              refine ax_callVi (st := []) hC [.int (nI j), .int (nI (8 + k)), .int 2, .int 3] w29 rfl (c_X11_meet_3 l D z B lo _ h27 o 0 0 j (8 + k) a b nd1 nd2 F G pa 2 W w29 w30 (by omega) (by omega) hpj hpk w31 w32 hwF hwG hbF hbG S_h27 M_h27 hMW hW0 (Or.inr rfl)) (cwV 4 hC.1.2.2.2.2 gL_law_X11_meet rfl rfl rfl (by decide +kernel) ⟨Nat.le_of_ble_eq_true rfl, Nat.le_of_ble_eq_true rfl⟩) rfl rfl (Nat.le_of_ble_eq_true rfl) dL_law_346 ⟨show cs + 0 + 0 + 0 + 0 ≤ 600000 by omega, show ss + 0 + 0 + 0 + 0 ≤ 7302250 by omega⟩ (fun r35 hi36 h37 hp38 => ?_)
              obtain ⟨rfl, ih_h37, fh_h37, S_h37, M_h37⟩ := hp38
              replace ih_h37 := ih_h37.symm
              subst ih_h37
              have w39 := w29.kept (fun q _ _ => (fh_h37 q (by omega)))
              have w40 := w30.kept (fun q _ _ => (fh_h37 q (by omega)))
              have w41 := w31.kept (fun q _ _ => (fh_h37 q (by omega)))
              have w42 := w32.kept (fun q _ _ => (fh_h37 q (by omega)))
              have w43 := w33.kept (fun q _ _ => fh_h37 q (by omega))
              refine ax_bipush (v := (-2)) hC dL_law_349 (by decide) ?_
              refine ax_icmp_eq (tgt := 356) hC dL_law_351 (by decide) (fun c44 => ?_) (fun c44 => ?_)
              · refine ax_iinc (v := 3) hC 0 [(9, .int 3), (8, .int 1), (7, .int (nI k)), (6, .int (nI j)), (1, .ref o), (0, .ref (kr 19))] dL_law_356 rfl (by decide) (by decide) rfl ?_
                refine ax_goto (tgt := 268) hC dL_law_359 (by decide) ?_
                refine ax_locals [0, 1, 2, 3, 4, 5] (L' := [(9, .int 3), (8, .int 1), (7, .int (nI k)), (6, .int (nI j)), (1, .ref o), (0, .ref (kr 19))]) rfl ?_
                exact hK _ (fun q _ => ((fh_h37 q (by omega)).trans ((fh_h27 q (by omega)).trans ((fh_h17 q (by omega)).trans (fh_h5 q (by omega)))))) ⟨S_h37, w43, _, _, _, _, M_h37⟩
              · exact absurd c44 (by decide)
        · refine ax_goto (tgt := 356) hC dL_law_298 (by decide) ?_
          refine ax_iinc (v := 3) hC 0 [(9, .int 3), (8, .int 1), (7, .int (nI k)), (6, .int (nI j)), (1, .ref o), (0, .ref (kr 19))] dL_law_356 rfl (by decide) (by decide) rfl ?_
          refine ax_goto (tgt := 268) hC dL_law_359 (by decide) ?_
          refine ax_locals [0, 1, 2, 3, 4, 5] (L' := [(9, .int 3), (8, .int 1), (7, .int (nI k)), (6, .int (nI j)), (1, .ref o), (0, .ref (kr 19))]) rfl ?_
          exact hK _ (fun q _ => (fh_h5 q (by omega))) ⟨S_h5, w11, _, _, _, _, M_h5⟩
