set_option maxRecDepth 100000 in
set_option maxHeartbeats 4000000 in
theorem law_7 {p : Program} {l : Launch} {e : Env} {s : State} {m : MethodId} {args : Array Value} {below : List Frame} {meth : Method} {c : Code} {D : va_G} {z : Nat → ClassId} {B : Heap} {lo : Nat} {kr kv : Nat → Nat} {Q : State → Prop} (hC : Cx p s m args c cL_law 10 wsL_law RL D vwCl (ty6 z)) (hX : XSw lo B kr kv s) {hi o : Nat} {h : Nat → Option va_E} {pa : Nat → Option Nat} {cs ss k : Nat} {nv : Nat → Nat} {wv : Nat → Bool} {TT : Nat → Tre} (hO : ObS h o 0 0) (hPs : PsS z h o pa) (hP : Prs z h o hi pa nv wv TT 5) (hS : SsS z h o k) (hk : k < 4) (hbg : o + 147 ≤ hi) (hcs : cs ≤ 10000) (hss : ss ≤ 1000000) (hK : ∀ (h9 : Nat → Option va_E), ObS h9 o 0 0 → PsS z h9 o pa → Prs z h9 o (hi + 9) pa nv wv TT 5 → SsS z h9 o (k + 1) → Gx p l e room_1 s m args below meth c D vwCl B lo 10 Q (hi + 9) h9 (cs + 9) (ss + 2889) [(6, .int (nI (k + 1))), (1, .ref o), (0, .ref (kr 19))] 430 []) : Gx p l e room_1 s m args below meth c D vwCl B lo 10 Q hi h cs ss [(6, .int (nI k)), (1, .ref o), (0, .ref (kr 19))] 430 [] := by
  obtain ⟨⟨rr, sts, dns, wts, brs, gvs, eds, hrr, hRm, hsum⟩, ⟨pas, ss9, nus, ens, cas, cfs, hBl⟩, hEn⟩ := hS
  obtain ⟨a, b, F, F2, pk, -, hF, -, mF, -, la, la9, -⟩ := hP k (by omega)
  have wF := mF.tab.wfP_
  have hcv : cnV kv 30 < 2 ^ 27 := cnV_lt (by omega)
  refine ax_iload hC 0 dL_law_430 rfl ?_
  refine ax_iconst (v := 4) hC dL_law_432 (by decide) ?_
  refine ax_icmp_ge (tgt := 502) hC dL_law_433 (by decide) (fun c1 => ?_) (fun c1 => ?_)
  · exact absurd ((nI_leI (a := 4) (by decide) (by omega)).mp c1) (by omega)
  · refine ax_aload_n hC 1 dL_law_436 rfl rfl ?_
    refine ax_iconst (v := 1) hC dL_law_437 (by decide) ?_
    refine ax_aload_n hC 2 dL_law_438 rfl rfl ?_
    refine ax_bipush (v := 30) hC dL_law_439 (by decide) ?_
    refine ax_sSp (mc := 0) (ms := 0) (st := [.int 1, .ref o]) hC hX [.ref (kr 19), .int 30] (c_L_cell l D z B lo _ _ kr kv 30 (by omega)) (va_cwS 2 hC.1.2.2.2.2 gL_law_L_cell rfl rfl rfl (by decide +kernel) ⟨Nat.le_of_ble_eq_true rfl, Nat.le_of_ble_eq_true rfl⟩) rfl rfl (Nat.le_of_ble_eq_true rfl) dL_law_441 ⟨show cs + 0 ≤ 600000 by omega, show ss + 0 ≤ 7302250 by omega⟩ (fun r2 er3 => ?_)
    subst er3
    refine ax_iconst (v := 4) hC dL_law_444 (by decide) ?_
    refine ax_irem hC dL_law_445 (by decide) ?_
    refine ax_eqi (y := nI (cnV kv 30 % 4)) (nI_rem (d := 4) (by omega) (by decide)) ?_
    refine ax_iadd hC dL_law_446 ?_
    refine ax_eqi (y := nI (1 + cnV kv 30 % 4)) (nI_add 1 _) ?_
    refine ax_callVi (st := []) hC [.int (nI (1 + cnV kv 30 % 4))] hO rfl (c_X11_size l D z B lo _ h o 0 0 k (nI rr) sts dns wts brs gvs eds (1 + cnV kv 30 % 4) hO hRm (by omega) (by omega)) (cwV 1 hC.1.2.2.2.2 gL_law_X11_size rfl rfl rfl (by decide +kernel) ⟨Nat.le_of_ble_eq_true rfl, Nat.le_of_ble_eq_true rfl⟩) rfl rfl (Nat.le_of_ble_eq_true rfl) dL_law_447 ⟨show cs + 0 + 0 ≤ 600000 by omega, show ss + 0 + 0 ≤ 7302250 by omega⟩ (fun r4 hi5 h6 hp7 => ?_)
    obtain ⟨rfl, ih_h6, fh_h6, R_h6⟩ := hp7
    replace ih_h6 := ih_h6.symm
    subst ih_h6
    have O_h6 := hO.kept (fun q _ _ => fh_h6 q (by omega))
    have Ps_h6 := hPs.kept (fun q _ _ => fh_h6 q (by omega))
    have F_h6 := hF.kept (fun q _ _ => fh_h6 q (by omega))
    have Bl_h6 := hBl.kept (fun q _ _ => fh_h6 q (by omega))
    have E_h6 := (hEn (2 * k) (by omega) (by omega)).kept (fun q _ _ => fh_h6 q (by omega))
    have G_h6 := (hEn (2 * k + 1) (by omega) (by omega)).kept (fun q _ _ => fh_h6 q (by omega))
    refine ax_if_lt (tgt := 494) hC dL_law_450 (by decide) (fun c8 => ?_) (fun c8 => ?_)
    · exact absurd c8 (nI_pos (by omega))
    · refine ax_aload_n hC 1 dL_law_453 rfl rfl ?_
      refine ax_iload hC 0 dL_law_454 rfl ?_
      refine ax_iload hC 0 dL_law_456 rfl ?_
      refine ax_iconst (v := 4) hC dL_law_458 (by decide) ?_
      refine ax_irem hC dL_law_459 (by decide) ?_
      refine ax_eqi (y := nI (k % 4)) (nI_rem (d := 4) (by omega) (by decide)) ?_
      refine ax_iload hC 0 dL_law_460 rfl ?_
      refine ax_iconst (v := 1) hC dL_law_462 (by decide) ?_
      refine ax_iadd hC dL_law_463 ?_
      refine ax_eqi (y := nI (k + 1)) (nI_1 k) ?_
      refine ax_iconst (v := 4) hC dL_law_464 (by decide) ?_
      refine ax_irem hC dL_law_465 (by decide) ?_
      refine ax_eqi (y := nI ((k + 1) % 4)) (nI_rem (d := 4) (by omega) (by decide)) ?_
      refine ax_callVi (st := []) hC [.int (nI k), .int (nI (k % 4)), .int (nI ((k + 1) % 4))] O_h6 rfl (c_X11_open l D z B lo _ h6 o 0 0 k (k % 4) ((k + 1) % 4) a F pa k (nI (1 + cnV kv 30 % 4)) sts dns wts brs gvs eds O_h6 Ps_h6 (by omega) pk F_h6 wF la hbg R_h6 E_h6 G_h6 (by omega) (by omega) (by omega)) (cwV 3 hC.1.2.2.2.2 gL_law_X11_open rfl rfl rfl (by decide +kernel) ⟨Nat.le_of_ble_eq_true rfl, Nat.le_of_ble_eq_true rfl⟩) rfl rfl (Nat.le_of_ble_eq_true rfl) dL_law_466 ⟨show cs + 0 + 0 + 9 ≤ 600000 by omega, show ss + 0 + 0 + 2889 ≤ 7302250 by omega⟩ (fun r9 hi10 h11 hp12 => ?_)
      obtain ⟨rfl, ih_h11, fh_h11, R_h11, E_h11, V_h11, pv_h11, tv_h11, G_h11⟩ := hp12
      subst ih_h11
      have O_h11 := O_h6.kept (fun q _ _ => fh_h11 q (by omega) (by omega) (by omega))
      have Ps_h11 := Ps_h6.kept (fun q _ _ => fh_h11 q (by omega) (by omega) (by omega))
      have F_h11 := F_h6.kept (fun q _ _ => fh_h11 q (by omega) (by omega) (by omega))
      have Bl_h11 := Bl_h6.kept (fun q _ _ => fh_h11 q (by omega) (by omega) (by omega))
      refine ax_iload hC 0 dL_law_469 rfl ?_
      refine ax_icmp_ne (tgt := 494) hC dL_law_471 (by decide) (fun c13 => ?_) (fun c13 => ?_)
      · exact absurd rfl c13
      · refine ax_aload_n hC 1 dL_law_474 rfl rfl ?_
        refine ax_iload hC 0 dL_law_475 rfl ?_
        refine ax_aload_n hC 2 dL_law_477 rfl rfl ?_
        refine ax_bipush (v := 31) hC dL_law_478 (by decide) ?_
        refine ax_bipush (v := 20) hC dL_law_480 (by decide) ?_
        refine ax_iload hC 0 dL_law_482 rfl ?_
        refine ax_imul hC dL_law_484 ?_
        refine ax_eqi (y := nI (20 * k)) (nI_mul 20 k) ?_
        refine ax_iadd hC dL_law_485 ?_
        refine ax_eqi (y := nI (31 + 20 * k)) (nI_add 31 _) ?_
        refine ax_bipush (v := 24) hC dL_law_486 (by decide) ?_
        refine ax_sSi (mc := 0) (ms := 0) (st := []) hC hX [.ref o, .int (nI k), .ref (kr 19), .int (nI (31 + 20 * k)), .int 24] (c_L_talks l D z B lo _ _ kr kv o k (31 + 20 * k) (k + 1) (1 + cnV kv 30 % 4) (k % 4) ((k + 1) % 4) a hi 0 0 gvs (nI (pcap F)) (nI (pcap F)) F V_h11 O_h11 ⟨_, _, _, _, _, R_h11, hsum⟩ (EndI.born wF (Made_stK mF) E_h11) (EndI.born (tv_h11.wf wF) (Turn_stK tv_h11 wF (Made_stK mF)) G_h11) ⟨_, _, _, _, _, _, Bl_h11⟩ F_h11 pv_h11 wF mF.tab.wfD_ (tv_h11.wf wF) (tv_h11.deeps wF mF.tab.wfD_) la hbg (by omega) (by omega) (by omega) (by omega) (by omega) (by omega)) (va_cwS 5 hC.1.2.2.2.2 gL_law_L_talks rfl rfl rfl (by decide +kernel) ⟨Nat.le_of_ble_eq_true rfl, Nat.le_of_ble_eq_true rfl⟩) rfl rfl (Nat.le_of_ble_eq_true rfl) dL_law_488 ⟨show cs + 0 + 0 + 9 + 0 ≤ 600000 by omega, show ss + 0 + 0 + 2889 + 0 ≤ 7302250 by omega⟩ (fun r14 hi15 h16 hp17 => ?_)
        obtain ⟨rfl, ih_h16, fh_h16, O_h16, R_h16, -, -, Bl_h16, -, -⟩ := hp17
        subst ih_h16
        have Ps_h16 := Ps_h11.kept (fun q _ _ => fh_h16 q (by omega) (by omega) (by omega))
        refine ax_if_ne (tgt := 496) hC dL_law_491 (by decide) (fun c18 => ?_) (fun c18 => ?_)
        · refine ax_iinc (v := nI (k + 1)) hC 0 [(6, .int (nI (k + 1))), (1, .ref o), (0, .ref (kr 19))] dL_law_496 rfl (nI_1 _) (by decide) rfl ?_
          refine ax_goto (tgt := 430) hC dL_law_499 (by decide) ?_
          refine ax_locals [0, 1, 2] (L' := [(6, .int (nI (k + 1))), (1, .ref o), (0, .ref (kr 19))]) rfl ?_
          refine ax_widen (k := cs + 9) (n := ss + 2889) (by omega) (by omega) ?_
          refine ax_eqs (hi' := hi + 9) (cs' := cs + 9) (ss' := ss + 2889) rfl rfl rfl ?_
          obtain ⟨st8, dn8, wt8, br8, ed8, Rm8, sum8⟩ := R_h16
          exact hK _ O_h16 Ps_h16 ((hP.kept (fun q _ _ => ((fh_h16 q (by omega) (by omega) (by omega)).trans ((fh_h11 q (by omega) (by omega) (by omega)).trans (fh_h6 q (by omega)))))).more (by omega)) ⟨⟨_, _, _, _, _, _, _, by omega, Rm8, sum8⟩, Bl_h16, fun i (u8 : 2 * (k + 1) ≤ i) v8 => (hEn i (by omega) v8).kept (fun q _ _ => ((fh_h16 q (by omega) (by omega) (by omega)).trans ((fh_h11 q (by omega) (by omega) (by omega)).trans (fh_h6 q (by omega)))))⟩
        · exact absurd c18 (by decide)

set_option maxRecDepth 100000 in
set_option maxHeartbeats 4000000 in
theorem law_8 {p : Program} {l : Launch} {e : Env} {s : State} {m : MethodId} {args : Array Value} {below : List Frame} {meth : Method} {c : Code} {D : va_G} {z : Nat → ClassId} {B : Heap} {lo : Nat} {kr kv : Nat → Nat} {Q : State → Prop} (hC : Cx p s m args c cL_law 10 wsL_law RL D vwCl (ty6 z)) (hX : XSw lo B kr kv s) {hi o : Nat} {h : Nat → Option va_E} {cs ss k : Nat} (hO : ObS h o 0 0) (hS : SsS z h o k) (hk : k = 4) (hcs : cs ≤ 10000) (hss : ss ≤ 1000000) (hEnd : ∀ (hi : Nat) (h : Nat → Option va_E) (cs ss : Nat) (L : List (Nat × Value)), cs ≤ 600000 → ss ≤ 7302250 → Gx p l e room_1 s m args below meth c D vwCl B lo 10 Q hi h cs ss L 541 [.int 1]) : Gx p l e room_1 s m args below meth c D vwCl B lo 10 Q hi h cs ss [(6, .int (nI k)), (1, .ref o), (0, .ref (kr 19))] 430 [] := by
  obtain ⟨⟨rr, sts, dns, wts, brs, gvs, eds, hrr, hRm, hsum⟩, -, -⟩ := hS
  refine ax_iload hC 0 dL_law_430 rfl ?_
  refine ax_iconst (v := 4) hC dL_law_432 (by decide) ?_
  refine ax_icmp_ge (tgt := 502) hC dL_law_433 (by decide) (fun c1 => ?_) (fun c1 => ?_)
  · refine ax_aload_n hC 1 dL_law_502 rfl rfl ?_
    refine ax_iconst (v := 1) hC dL_law_503 (by decide) ?_
    refine ax_callVp (st := []) hC [.int 1] hO rfl (c_X11_count_1 l D z B lo _ h o 0 0 k (nI rr) sts dns wts brs gvs eds hO hRm) (cwV 1 hC.1.2.2.2.2 gL_law_X11_count rfl rfl rfl (by decide +kernel) ⟨Nat.le_of_ble_eq_true rfl, Nat.le_of_ble_eq_true rfl⟩) rfl rfl (Nat.le_of_ble_eq_true rfl) dL_law_504 ⟨show cs + 0 ≤ 600000 by omega, show ss + 0 ≤ 7302250 by omega⟩ (fun r2 er3 => ?_)
    subst er3
    refine ax_iconst (v := 4) hC dL_law_507 (by decide) ?_
    refine ax_icmp_ne (tgt := 540) hC dL_law_508 (by decide) (fun c4 => ?_) (fun c4 => ?_)
    · exact absurd (congrArg nI hk) c4
    · refine ax_aload_n hC 1 dL_law_511 rfl rfl ?_
      refine ax_iconst (v := 0) hC dL_law_512 (by decide) ?_
      refine ax_callVp (st := []) hC [.int 0] hO rfl (c_X11_led_0 l D z B lo _ h o 0 0 k (nI rr) sts dns wts brs gvs eds hO hRm) (cwV 1 hC.1.2.2.2.2 gL_law_X11_led rfl rfl rfl (by decide +kernel) ⟨Nat.le_of_ble_eq_true rfl, Nat.le_of_ble_eq_true rfl⟩) rfl rfl (Nat.le_of_ble_eq_true rfl) dL_law_513 ⟨show cs + 0 + 0 ≤ 600000 by omega, show ss + 0 + 0 ≤ 7302250 by omega⟩ (fun r5 er6 => ?_)
      refine ax_eqi (y := sts) er6 ?_
      refine ax_aload_n hC 1 dL_law_516 rfl rfl ?_
      refine ax_iconst (v := 1) hC dL_law_517 (by decide) ?_
      refine ax_callVp (st := [.int sts]) hC [.int 1] hO rfl (c_X11_led_1 l D z B lo _ h o 0 0 k (nI rr) sts dns wts brs gvs eds hO hRm) (cwV 1 hC.1.2.2.2.2 gL_law_X11_led rfl rfl rfl (by decide +kernel) ⟨Nat.le_of_ble_eq_true rfl, Nat.le_of_ble_eq_true rfl⟩) rfl rfl (Nat.le_of_ble_eq_true rfl) dL_law_518 ⟨show cs + 0 + 0 + 0 ≤ 600000 by omega, show ss + 0 + 0 + 0 ≤ 7302250 by omega⟩ (fun r7 er8 => ?_)
      refine ax_eqi (y := dns) er8 ?_
      refine ax_aload_n hC 1 dL_law_521 rfl rfl ?_
      refine ax_iconst (v := 2) hC dL_law_522 (by decide) ?_
      refine ax_callVp (st := [.int dns, .int sts]) hC [.int 2] hO rfl (c_X11_led_2 l D z B lo _ h o 0 0 k (nI rr) sts dns wts brs gvs eds hO hRm) (cwV 1 hC.1.2.2.2.2 gL_law_X11_led rfl rfl rfl (by decide +kernel) ⟨Nat.le_of_ble_eq_true rfl, Nat.le_of_ble_eq_true rfl⟩) rfl rfl (Nat.le_of_ble_eq_true rfl) dL_law_523 ⟨show cs + 0 + 0 + 0 + 0 ≤ 600000 by omega, show ss + 0 + 0 + 0 + 0 ≤ 7302250 by omega⟩ (fun r9 er10 => ?_)
      refine ax_eqi (y := wts) er10 ?_
      refine ax_iadd hC dL_law_526 ?_
      refine ax_aload_n hC 1 dL_law_527 rfl rfl ?_
      refine ax_iconst (v := 3) hC dL_law_528 (by decide) ?_
      refine ax_callVp (st := [.int (dns + wts), .int sts]) hC [.int 3] hO rfl (c_X11_led_3 l D z B lo _ h o 0 0 k (nI rr) sts dns wts brs gvs eds hO hRm) (cwV 1 hC.1.2.2.2.2 gL_law_X11_led rfl rfl rfl (by decide +kernel) ⟨Nat.le_of_ble_eq_true rfl, Nat.le_of_ble_eq_true rfl⟩) rfl rfl (Nat.le_of_ble_eq_true rfl) dL_law_529 ⟨show cs + 0 + 0 + 0 + 0 + 0 ≤ 600000 by omega, show ss + 0 + 0 + 0 + 0 + 0 ≤ 7302250 by omega⟩ (fun r11 er12 => ?_)
      refine ax_eqi (y := brs) er12 ?_
      refine ax_iadd hC dL_law_532 ?_
      refine ax_icmp_ne (tgt := 540) hC dL_law_533 (by decide) (fun c13 => ?_) (fun c13 => ?_)
      · exact absurd hsum c13
      · refine ax_iconst (v := 1) hC dL_law_536 (by decide) ?_
        refine ax_goto (tgt := 541) hC dL_law_537 (by decide) ?_
        exact hEnd _ _ _ _ _ (by omega) (by omega)
  · exact absurd (nI_le (a := 4) (by omega) (by omega)) c1

theorem law_7K {p : Program} {l : Launch} {e : Env} {s : State} {m : MethodId} {args : Array Value} {below : List Frame} {meth : Method} {c : Code} {D : va_G} {z : Nat → ClassId} {B : Heap} {lo : Nat} {kr kv : Nat → Nat} {Q : State → Prop} (hC : Cx p s m args c cL_law 10 wsL_law RL D vwCl (ty6 z)) (hX : XSw lo B kr kv s) {o : Nat} {pa : Nat → Option Nat} {nv : Nat → Nat} {wv : Nat → Bool} {TT : Nat → Tre} (hEnd : ∀ (hi : Nat) (h : Nat → Option va_E) (cs ss : Nat) (L : List (Nat × Value)), cs ≤ 600000 → ss ≤ 7302250 → Gx p l e room_1 s m args below meth c D vwCl B lo 10 Q hi h cs ss L 541 [.int 1]) : ∀ (n k hi cs ss : Nat) (h : Nat → Option va_E), k + n = 4 → ObS h o 0 0 → PsS z h o pa → Prs z h o hi pa nv wv TT 5 → SsS z h o k → o + 147 ≤ hi → cs + 9 * n ≤ 10000 → ss + 2889 * n ≤ 1000000 → Gx p l e room_1 s m args below meth c D vwCl B lo 10 Q hi h cs ss [(6, .int (nI k)), (1, .ref o), (0, .ref (kr 19))] 430 [] := by
  intro n
  induction n with
  | zero =>
    intro k hi cs ss h ek hO hPs hP hS hb hcs hss
    exact law_8 hC hX hO hS (by omega) (by omega) (by omega) hEnd
  | succ n ih =>
    intro k hi cs ss h ek hO hPs hP hS hb hcs hss
    exact law_7 hC hX hO hPs hP hS (by omega) hb (by omega) (by omega) (fun h9 O9 Ps9 P9 S9 => ih (k + 1) (hi + 9) (cs + 9) (ss + 2889) h9 (by omega) O9 Ps9 P9 S9 (by omega) (by omega) (by omega))
