set_option maxRecDepth 100000 in
set_option maxHeartbeats 4000000 in
theorem law_6 {p : Program} {l : Launch} {e : Env} {s : State} {m : MethodId} {args : Array Value} {below : List Frame} {meth : Method} {c : Code} {D : va_G} {z : Nat → ClassId} {B : Heap} {lo : Nat} {kr kv : Nat → Nat} {Q : State → Prop} (hC : Cx p s m args c cL_law 10 wsL_law RL D vwCl (ty6 z)) (hX : XSw lo B kr kv s) {hi o : Nat} {h : Nat → Option va_E} {pa : Nat → Option Nat} {cs ss : Nat} {nv : Nat → Nat} {wv : Nat → Bool} {TT : Nat → Tre} (hO : ObS h o 0 0) (hPs : PsS z h o pa) (hB : WB z h o) (hP : Prs z h o hi pa nv wv TT 5) (hN : NrS z h o) (hT01 : ∀ P Q : PT, MadeP (nv 0) (wv 0) (TT 0) P → MadeP (nv 1) (wv 1) (TT 1) Q → Fit P Q (sN P 0) (sN Q 0)) (hT34 : ∀ P Q : PT, MadeP (nv 3) (wv 3) (TT 3) P → MadeP (nv 4) (wv 4) (TT 4) Q → Fit P Q (sN P 0) (sN Q 0)) (hT30 : ∀ P Q : PT, MadeP (nv 3) (wv 3) (TT 3) P → MadeP (nv 0) (wv 0) (TT 0) Q → Fit P Q (sN P 0) (sN Q 0) → pK Q (sN Q 0) = 1) (hcs : cs ≤ 10000) (hss : ss ≤ 1000000) (hK : ∀ (h9 : Nat → Option va_E), (∀ q, (q < o + 23 ∨ o + 41 ≤ q) → h9 q = h q) → Gx p l e room_1 s m args below meth c D vwCl B lo 10 Q hi h9 cs ss [(6, .int 0), (1, .ref o), (0, .ref (kr 19))] 430 []) : Gx p l e room_1 s m args below meth c D vwCl B lo 10 Q hi h cs ss [(1, .ref o), (0, .ref (kr 19))] 374 [] := by
  obtain ⟨hS, -⟩ := hB
  obtain ⟨a00, b00, P00, D00, pp0, pd0, hF0, hD0, mp0, td0, la0, -⟩ := hP 0 (by omega)
  obtain ⟨a10, b10, P10, D10, pp1, pd1, hF1, hD1, mp1, td1, la1, -⟩ := hP 1 (by omega)
  obtain ⟨a30, b30, P30, D30, pp3, pd3, hF3, hD3, mp3, td3, la3, -⟩ := hP 3 (by omega)
  obtain ⟨a40, b40, P40, D40, pp4, pd4, hF4, hD4, mp4, td4, la4, -⟩ := hP 4 (by omega)
  have wp0 := mp0.tab.wfP_
  have wp1 := mp1.tab.wfP_
  have wp3 := mp3.tab.wfP_
  have wp4 := mp4.tab.wfP_
  refine ax_aload_n hC 0 dL_law_374 rfl rfl ?_
  refine ax_iconst (v := 0) hC dL_law_375 (by decide) ?_
  refine ax_iconst (v := 1) hC dL_law_376 (by decide) ?_
  refine ax_callVi (st := []) hC [.int 0, .int 1] hO rfl (c_X11_fits l D z B lo _ h o 0 0 0 1 a00 a10 (nI (pcap P00)) (nI (pcap P10)) P00 P10 pa hO hPs (by omega) (by omega) pp0 pp1 hF0 hF1 wp0 wp1 la0 la1 hS) (cwV 2 hC.1.2.2.2.2 gL_law_X11_fits rfl rfl rfl (by decide +kernel) ⟨Nat.le_of_ble_eq_true rfl, Nat.le_of_ble_eq_true rfl⟩) rfl rfl (Nat.le_of_ble_eq_true rfl) dL_law_377 ⟨show cs + 0 ≤ 600000 by omega, show ss + 0 ≤ 7302250 by omega⟩ (fun r1 hi2 h3 hp4 => ?_)
  obtain ⟨ih_h3, fh_h3, S_h3, hr_h3⟩ := hp4
  replace ih_h3 := ih_h3.symm
  subst ih_h3
  have w5 := hO.kept (fun q _ _ => (fh_h3 q (by omega)))
  have w6 := hPs.kept (fun q _ _ => (fh_h3 q (by omega)))
  have w7 := hN.kept (fun q _ _ => (fh_h3 q (by omega)))
  have w8 := hF0.kept (fun q _ _ => (fh_h3 q (by omega)))
  have w9 := hF1.kept (fun q _ _ => (fh_h3 q (by omega)))
  have w10 := hF3.kept (fun q _ _ => (fh_h3 q (by omega)))
  have w11 := hF4.kept (fun q _ _ => (fh_h3 q (by omega)))
  rcases hr_h3 with ⟨er_h3, ft_h3⟩ | ⟨er_h3, ft_h3⟩
  · subst er_h3
    refine ax_iconst (v := 1) hC dL_law_380 (by decide) ?_
    refine ax_icmp_ne (tgt := 425) hC dL_law_381 (by decide) (fun c12 => ?_) (fun c12 => ?_)
    · exact absurd c12 (by decide)
    · refine ax_aload_n hC 0 dL_law_384 rfl rfl ?_
      refine ax_iconst (v := 3) hC dL_law_385 (by decide) ?_
      refine ax_iconst (v := 4) hC dL_law_386 (by decide) ?_
      refine ax_callVi (st := []) hC [.int 3, .int 4] w5 rfl (c_X11_fits l D z B lo _ h3 o 0 0 3 4 a30 a40 (nI (pcap P30)) (nI (pcap P40)) P30 P40 pa w5 w6 (by omega) (by omega) pp3 pp4 w10 w11 wp3 wp4 la3 la4 S_h3) (cwV 2 hC.1.2.2.2.2 gL_law_X11_fits rfl rfl rfl (by decide +kernel) ⟨Nat.le_of_ble_eq_true rfl, Nat.le_of_ble_eq_true rfl⟩) rfl rfl (Nat.le_of_ble_eq_true rfl) dL_law_387 ⟨show cs + 0 + 0 ≤ 600000 by omega, show ss + 0 + 0 ≤ 7302250 by omega⟩ (fun r13 hi14 h15 hp16 => ?_)
      obtain ⟨ih_h15, fh_h15, S_h15, hr_h15⟩ := hp16
      replace ih_h15 := ih_h15.symm
      subst ih_h15
      have w17 := w5.kept (fun q _ _ => (fh_h15 q (by omega)))
      have w18 := w6.kept (fun q _ _ => (fh_h15 q (by omega)))
      have w19 := w7.kept (fun q _ _ => (fh_h15 q (by omega)))
      have w20 := w8.kept (fun q _ _ => (fh_h15 q (by omega)))
      have w21 := w9.kept (fun q _ _ => (fh_h15 q (by omega)))
      have w22 := w10.kept (fun q _ _ => (fh_h15 q (by omega)))
      have w23 := w11.kept (fun q _ _ => (fh_h15 q (by omega)))
      rcases hr_h15 with ⟨er_h15, ft_h15⟩ | ⟨er_h15, ft_h15⟩
      · subst er_h15
        refine ax_iconst (v := 1) hC dL_law_390 (by decide) ?_
        refine ax_icmp_ne (tgt := 425) hC dL_law_391 (by decide) (fun c24 => ?_) (fun c24 => ?_)
        · exact absurd c24 (by decide)
        · refine ax_aload_n hC 0 dL_law_394 rfl rfl ?_
          refine ax_iconst (v := 3) hC dL_law_395 (by decide) ?_
          refine ax_iconst (v := 0) hC dL_law_396 (by decide) ?_
          refine ax_callVi (st := []) hC [.int 3, .int 0] w17 rfl (c_X11_fits l D z B lo _ h15 o 0 0 3 0 a30 a00 (nI (pcap P30)) (nI (pcap P00)) P30 P00 pa w17 w18 (by omega) (by omega) pp3 pp0 w22 w20 wp3 wp0 la3 la0 S_h15) (cwV 2 hC.1.2.2.2.2 gL_law_X11_fits rfl rfl rfl (by decide +kernel) ⟨Nat.le_of_ble_eq_true rfl, Nat.le_of_ble_eq_true rfl⟩) rfl rfl (Nat.le_of_ble_eq_true rfl) dL_law_397 ⟨show cs + 0 + 0 + 0 ≤ 600000 by omega, show ss + 0 + 0 + 0 ≤ 7302250 by omega⟩ (fun r25 hi26 h27 hp28 => ?_)
          obtain ⟨ih_h27, fh_h27, S_h27, hr_h27⟩ := hp28
          replace ih_h27 := ih_h27.symm
          subst ih_h27
          have w29 := w17.kept (fun q _ _ => (fh_h27 q (by omega)))
          have w30 := w18.kept (fun q _ _ => (fh_h27 q (by omega)))
          have w31 := w19.kept (fun q _ _ => (fh_h27 q (by omega)))
          have w32 := w20.kept (fun q _ _ => (fh_h27 q (by omega)))
          have w33 := w21.kept (fun q _ _ => (fh_h27 q (by omega)))
          have w34 := w22.kept (fun q _ _ => (fh_h27 q (by omega)))
          have w35 := w23.kept (fun q _ _ => (fh_h27 q (by omega)))
          rcases hr_h27 with ⟨er_h27, ft_h27⟩ | ⟨er_h27, ft_h27⟩
          · subst er_h27
            refine ax_iconst (v := 1) hC dL_law_400 (by decide) ?_
            refine ax_icmp_ne (tgt := 427) hC dL_law_401 (by decide) (fun c36 => ?_) (fun c36 => ?_)
            · exact absurd c36 (by decide)
            · refine ax_aload_n hC 0 dL_law_404 rfl rfl ?_
              refine ax_iconst (v := 0) hC dL_law_405 (by decide) ?_
              refine ax_iconst (v := 0) hC dL_law_406 (by decide) ?_
              refine ax_callVi (st := []) hC [.int 0, .int 0] w29 rfl (c_X11_bound l D z B lo _ h27 o 0 0 0 a00 P00 pa w29 w30 w31 (by omega) pp0 w32 (by have := wp0.1; omega) la0) (cwV 2 hC.1.2.2.2.2 gL_law_X11_bound rfl rfl rfl (by decide +kernel) ⟨Nat.le_of_ble_eq_true rfl, Nat.le_of_ble_eq_true rfl⟩) rfl rfl (Nat.le_of_ble_eq_true rfl) dL_law_407 ⟨show cs + 0 + 0 + 0 + 0 ≤ 600000 by omega, show ss + 0 + 0 + 0 + 0 ≤ 7302250 by omega⟩ (fun r37 hi38 h39 hp40 => ?_)
              obtain ⟨ih_h39, fh_h39, N_h39⟩ := hp40
              replace ih_h39 := ih_h39.symm
              subst ih_h39
              have w41 := w29.kept (fun q _ _ => (fh_h39 q (by omega)))
              have w42 := w30.kept (fun q _ _ => (fh_h39 q (by omega)))
              have w43 := w32.kept (fun q _ _ => (fh_h39 q (by omega)))
              refine ax_bipush (v := (-2)) hC dL_law_410 (by decide) ?_
              refine ax_icmp_eq (tgt := 427) hC dL_law_412 (by decide) (fun c44 => ?_) (fun c44 => ?_)
              · refine ax_iconst (v := 0) hC dL_law_427 (by decide) ?_
                refine ax_istore hC [(6, .int 0), (1, .ref o), (0, .ref (kr 19))] dL_law_428 (by decide) rfl ?_
                refine ax_locals [0, 1, 2] (L' := [(6, .int 0), (1, .ref o), (0, .ref (kr 19))]) rfl ?_
                exact hK _ (fun q _ => ((fh_h39 q (by omega)).trans ((fh_h27 q (by omega)).trans ((fh_h15 q (by omega)).trans (fh_h3 q (by omega))))))
              · refine ax_aload_n hC 0 dL_law_415 rfl rfl ?_
                refine ax_iconst (v := 0) hC dL_law_416 (by decide) ?_
                refine ax_iconst (v := 4) hC dL_law_417 (by decide) ?_
                refine ax_callVp (st := []) hC [.int 0, .int 4] w41 rfl (c_X11_ask l D z B lo _ h39 o 0 0 0 a00 _ P00 pa w41 w42 (by omega) pp0 w43 wp0) (cwV 2 hC.1.2.2.2.2 gL_law_X11_ask rfl rfl rfl (by decide +kernel) ⟨Nat.le_of_ble_eq_true rfl, Nat.le_of_ble_eq_true rfl⟩) rfl rfl (Nat.le_of_ble_eq_true rfl) dL_law_418 ⟨show cs + 0 + 0 + 0 + 0 + 0 ≤ 600000 by omega, show ss + 0 + 0 + 0 + 0 + 0 ≤ 7302250 by omega⟩ (fun r45 er46 => ?_)
                subst er46
                refine ax_eqi (y := 1) (hT30 _ _ mp3 mp0 ft_h27) ?_
                refine ax_iconst (v := 1) hC dL_law_421 (by decide) ?_
                refine ax_icmp_eq (tgt := 427) hC dL_law_422 (by decide) (fun c47 => ?_) (fun c47 => ?_)
                · refine ax_iconst (v := 0) hC dL_law_427 (by decide) ?_
                  refine ax_istore hC [(6, .int 0), (1, .ref o), (0, .ref (kr 19))] dL_law_428 (by decide) rfl ?_
                  refine ax_locals [0, 1, 2] (L' := [(6, .int 0), (1, .ref o), (0, .ref (kr 19))]) rfl ?_
                  exact hK _ (fun q _ => ((fh_h39 q (by omega)).trans ((fh_h27 q (by omega)).trans ((fh_h15 q (by omega)).trans (fh_h3 q (by omega))))))
                · exact absurd c47 (by decide)
          · subst er_h27
            refine ax_iconst (v := 1) hC dL_law_400 (by decide) ?_
            refine ax_icmp_ne (tgt := 427) hC dL_law_401 (by decide) (fun c48 => ?_) (fun c48 => ?_)
            · refine ax_iconst (v := 0) hC dL_law_427 (by decide) ?_
              refine ax_istore hC [(6, .int 0), (1, .ref o), (0, .ref (kr 19))] dL_law_428 (by decide) rfl ?_
              refine ax_locals [0, 1, 2] (L' := [(6, .int 0), (1, .ref o), (0, .ref (kr 19))]) rfl ?_
              exact hK _ (fun q _ => ((fh_h27 q (by omega)).trans ((fh_h15 q (by omega)).trans (fh_h3 q (by omega)))))
            · exact absurd c48 (by decide)
      · exact absurd (hT34 _ _ mp3 mp4) ft_h15
  · exact absurd (hT01 _ _ mp0 mp1) ft_h3
