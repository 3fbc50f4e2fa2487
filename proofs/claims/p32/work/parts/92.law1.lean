set_option maxRecDepth 100000 in
set_option maxHeartbeats 4000000 in
theorem law_1 {p : Program} {l : Launch} {e : Env} {s : State} {m : MethodId} {args : Array Value} {below : List Frame} {meth : Method} {c : Code} {D : va_G} {z : Nat → ClassId} {B : Heap} {lo : Nat} {kr kv : Nat → Nat} {Q : State → Prop} (hC : Cx p s m args c cL_law 10 wsL_law RL D vwCl (ty6 z)) (hX : XSw lo B kr kv s) {hi : Nat} {h : Nat → Option va_E} (hlo : lo ≤ hi) (hK : ∀ (w2 : Bool) (hi3 : Nat) (h3 : Nat → Option va_E) (sp vp sq vq sr vr : Nat), (Obj0 z h3 hi) → (StV kr kv h3 sp vp) → (ByA z kv h3 vp (txt 3 false 0 (mkT (cnV kv) 3 0 0).1)) → ((txt 3 false 0 (mkT (cnV kv) 3 0 0).1).length ≤ 92 ∧ sp < hi3 ∧ vp < hi3 ∧ (sp < lo ∨ hi + 147 ≤ sp) ∧ (vp < lo ∨ hi + 147 ≤ vp)) → (StV kr kv h3 sq vq) → (ByA z kv h3 vq (txt 3 true 0 (mkT (cnV kv) 3 0 0).1)) → ((txt 3 true 0 (mkT (cnV kv) 3 0 0).1).length ≤ 92 ∧ sq < hi3 ∧ vq < hi3 ∧ (sq < lo ∨ hi + 147 ≤ sq) ∧ (vq < lo ∨ hi + 147 ≤ vq)) → (StV kr kv h3 sr vr) → (ByA z kv h3 vr (txt 2 w2 0 (mkT (cnV kv) 2 0 24).1)) → ((txt 2 w2 0 (mkT (cnV kv) 2 0 24).1).length ≤ 92 ∧ sr < hi3 ∧ vr < hi3 ∧ (sr < lo ∨ hi + 147 ≤ sr) ∧ (vr < lo ∨ hi + 147 ≤ vr)) → (hi + 147 ≤ hi3) → Gx p l e room_1 s m args below meth c D vwCl B lo 10 Q hi3 h3 2301 464001 [(3, .ref sq), (2, .ref sp), (1, .ref hi), (0, .ref (kr 19))] 48 [.ref sr]) : Gx p l e room_1 s m args below meth c D vwCl B lo 10 Q hi h 0 0 [(0, .ref (kr 19))] 0 [] := by
  have iX11 : ∀ w ∈ u_ws RX11 TX11 13, w ∈ wsL_law := by decide +kernel
  refine ax_new (C := RX11) (T := TX11) (N := 13) (ci := 13) (fs := [.null, .null, .int 0, .null, .null, .null, .null, .null, .null, .null, .null, .null, .int 0]) hC tyX11 iX11 tyX11_ok (by decide +kernel) (by decide +kernel) (by decide +kernel) rfl (fun j hj => by rcases (show j = 0 ∨ j = 1 ∨ j = 2 ∨ j = 3 ∨ j = 4 ∨ j = 5 ∨ j = 6 ∨ j = 7 ∨ j = 8 ∨ j = 9 ∨ j = 10 ∨ j = 11 ∨ j = 12 by omega) with rfl | rfl | rfl | rfl | rfl | rfl | rfl | rfl | rfl | rfl | rfl | rfl | rfl <;> rfl) (Nat.le_of_ble_eq_true rfl) (Nat.le_of_ble_eq_true rfl) dL_law_0 (fun h1 e2 f3 => ?_)
  have e2 : h1 hi = some (.inr (13, [.null, .null, .int 0, .null, .null, .null, .null, .null, .null, .null, .null, .null, .int 0])) := e2
  refine ax_dup hC dL_law_3 rfl ?_
  refine ax_callI (st := [.ref hi]) hC [] (c_X11_init l D z B lo _ h1 hi e2 rfl) (cwI 0 hC.1.2.2.2.2 gL_law_X11_init rfl rfl rfl (hC.1.2.2.2.2 _ (by decide +kernel)) (hC.1.2.2.2.2 _ (by decide +kernel)) (hC.1.2.2.2.2 _ (by decide +kernel)) rfl (by decide +kernel) ⟨Nat.le_of_ble_eq_true rfl, Nat.le_of_ble_eq_true rfl⟩) rfl rfl (Nat.le_of_ble_eq_true rfl) dL_law_4 ⟨Nat.le_of_ble_eq_true rfl, Nat.le_of_ble_eq_true rfl⟩ (fun hi4 h5 hp6 => ?_)
  obtain ⟨i_h5, f_h5, ob_h5⟩ := hp6
  refine ax_astore_n hC [(1, .ref hi), (0, .ref (kr 19))] dL_law_7 rfl (by decide) rfl ?_
  refine ax_aload_n hC 1 dL_law_8 rfl rfl ?_
  refine ax_iconst (v := 0) hC dL_law_9 (by decide) ?_
  refine ax_iconst (v := 0) hC dL_law_10 (by decide) ?_
  refine ax_iconst (v := 3) hC dL_law_11 (by decide) ?_
  refine ax_sSq (mc := 661) (ms := 140001) (st := []) hC hX [.ref (kr 19), .int 0, .int 0, .int 3] (c_L_made__30 l D z B lo _ _ kr kv 0 3 (by omega) (by omega) (by omega)) (va_cwS 4 hC.1.2.2.2.2 gL_law_L_made_ rfl rfl rfl (by decide +kernel) ⟨Nat.le_of_ble_eq_true rfl, Nat.le_of_ble_eq_true rfl⟩) rfl rfl (Nat.le_of_ble_eq_true rfl) dL_law_12 ⟨Nat.le_of_ble_eq_true rfl, Nat.le_of_ble_eq_true rfl⟩ (fun r7 hi8 h9 hp10 => ?_)
  obtain ⟨q_sq11, v_sq11, rfl, s_h9, y_h9, d1_h9, d2_h9, d3_h9, o1_h9, o2_h9, i_h9, f_h9⟩ := hp10
  have ob12 := ob_h5.kept (fun q _ _ => f_h9 q (by omega))
  refine ax_astore_n hC [(2, .ref q_sq11), (1, .ref hi), (0, .ref (kr 19))] dL_law_15 rfl (by decide) rfl ?_
  refine ax_aload_n hC 2 dL_law_16 rfl rfl ?_
  refine ax_iconst (v := 0) hC dL_law_17 (by decide) ?_
  refine ax_iconst (v := 1) hC dL_law_18 (by decide) ?_
  refine ax_iconst (v := 3) hC dL_law_19 (by decide) ?_
  refine ax_sSq (mc := 661) (ms := 140001) (st := []) hC hX [.ref (kr 19), .int 0, .int 1, .int 3] (c_L_made__31 l D z B lo _ _ kr kv 0 3 (by omega) (by omega) (by omega)) (va_cwS 4 hC.1.2.2.2.2 gL_law_L_made_ rfl rfl rfl (by decide +kernel) ⟨Nat.le_of_ble_eq_true rfl, Nat.le_of_ble_eq_true rfl⟩) rfl rfl (Nat.le_of_ble_eq_true rfl) dL_law_20 ⟨Nat.le_of_ble_eq_true rfl, Nat.le_of_ble_eq_true rfl⟩ (fun r13 hi14 h15 hp16 => ?_)
  obtain ⟨q_sq17, v_sq17, rfl, s_h15, y_h15, d1_h15, d2_h15, d3_h15, o1_h15, o2_h15, i_h15, f_h15⟩ := hp16
  have sv18 : StV kr kv h15 q_sq11 v_sq11 := s_h9.kept (f_h15 _ (by omega))
  have by19 : ByA z kv h15 v_sq11 (txt 3 false 0 (mkT (cnV kv) 3 0 0).1) := y_h9.kept (f_h15 _ (by omega))
  have ob20 := ob12.kept (fun q _ _ => f_h15 q (by omega))
  refine ax_astore_n hC [(3, .ref q_sq17), (2, .ref q_sq11), (1, .ref hi), (0, .ref (kr 19))] dL_law_23 rfl (by decide) rfl ?_
  refine ax_widen (k := 2000) (n := 400000) (Nat.le_of_ble_eq_true rfl) (Nat.le_of_ble_eq_true rfl) ?_
  refine ax_aload_n hC 3 dL_law_24 rfl rfl ?_
  refine ax_bipush (v := 24) hC dL_law_25 (by decide) ?_
  refine ax_aload_n hC 3 dL_law_27 rfl rfl ?_
  refine ax_bipush (v := 23) hC dL_law_28 (by decide) ?_
  refine ax_sSp (mc := 0) (ms := 0) (st := [.int 24, .ref (kr 19)]) hC hX [.ref (kr 19), .int 23] (c_L_cell l D z B lo _ _ kr kv 23 (by omega)) (va_cwS 2 hC.1.2.2.2.2 gL_law_L_cell rfl rfl rfl (by decide +kernel) ⟨Nat.le_of_ble_eq_true rfl, Nat.le_of_ble_eq_true rfl⟩) rfl rfl (Nat.le_of_ble_eq_true rfl) dL_law_30 ⟨Nat.le_of_ble_eq_true rfl, Nat.le_of_ble_eq_true rfl⟩ (fun r21 er22 => ?_)
  subst er22
  refine ax_iconst (v := 1) hC dL_law_33 (by decide) ?_
  refine ax_iand hC dL_law_34 ?_
  refine ax_eqi (y := nI (cnV kv 23 % 2)) ((nI_mask _).2.1) ?_
  refine ax_iconst (v := 1) hC dL_law_35 (by decide) ?_
  refine ax_icmp_ne (tgt := 43) hC dL_law_36 (by decide) (fun c23 => ?_) (fun c23 => ?_)
  · refine ax_iconst (v := 0) hC dL_law_43 (by decide) ?_
    refine ax_iconst (v := 2) hC dL_law_44 (by decide) ?_
    refine ax_sSq (mc := 301) (ms := 64001) (st := []) hC hX [.ref (kr 19), .int 24, .int 0, .int 2] (c_L_made__20 l D z B lo _ _ kr kv 24 2 (by omega) (by omega) (by omega)) (va_cwS 4 hC.1.2.2.2.2 gL_law_L_made_ rfl rfl rfl (by decide +kernel) ⟨Nat.le_of_ble_eq_true rfl, Nat.le_of_ble_eq_true rfl⟩) rfl rfl (Nat.le_of_ble_eq_true rfl) dL_law_45 ⟨Nat.le_of_ble_eq_true rfl, Nat.le_of_ble_eq_true rfl⟩ (fun r24 hi25 h26 hp27 => ?_)
    obtain ⟨q_sq28, v_sq28, rfl, s_h26, y_h26, d1_h26, d2_h26, d3_h26, o1_h26, o2_h26, i_h26, f_h26⟩ := hp27
    have sv29 : StV kr kv h26 q_sq11 v_sq11 := sv18.kept (f_h26 _ (by omega))
    have sv30 : StV kr kv h26 q_sq17 v_sq17 := s_h15.kept (f_h26 _ (by omega))
    have by31 : ByA z kv h26 v_sq11 (txt 3 false 0 (mkT (cnV kv) 3 0 0).1) := by19.kept (f_h26 _ (by omega))
    have by32 : ByA z kv h26 v_sq17 (txt 3 true 0 (mkT (cnV kv) 3 0 0).1) := y_h15.kept (f_h26 _ (by omega))
    have ob33 := ob20.kept (fun q _ _ => f_h26 q (by omega))
    exact hK false _ _ _ _ _ _ _ _ ob33 sv29 by31 ⟨by omega, by omega, by omega, by omega, by omega⟩ sv30 by32 ⟨by omega, by omega, by omega, by omega, by omega⟩ s_h26 y_h26 ⟨by omega, by omega, by omega, by omega, by omega⟩ (by omega)
  · refine ax_iconst (v := 1) hC dL_law_39 (by decide) ?_
    refine ax_goto (tgt := 44) hC dL_law_40 (by decide) ?_
    refine ax_iconst (v := 2) hC dL_law_44 (by decide) ?_
    refine ax_sSq (mc := 301) (ms := 64001) (st := []) hC hX [.ref (kr 19), .int 24, .int 1, .int 2] (c_L_made__21 l D z B lo _ _ kr kv 24 2 (by omega) (by omega) (by omega)) (va_cwS 4 hC.1.2.2.2.2 gL_law_L_made_ rfl rfl rfl (by decide +kernel) ⟨Nat.le_of_ble_eq_true rfl, Nat.le_of_ble_eq_true rfl⟩) rfl rfl (Nat.le_of_ble_eq_true rfl) dL_law_45 ⟨Nat.le_of_ble_eq_true rfl, Nat.le_of_ble_eq_true rfl⟩ (fun r34 hi35 h36 hp37 => ?_)
    obtain ⟨q_sq38, v_sq38, rfl, s_h36, y_h36, d1_h36, d2_h36, d3_h36, o1_h36, o2_h36, i_h36, f_h36⟩ := hp37
    have sv39 : StV kr kv h36 q_sq11 v_sq11 := sv18.kept (f_h36 _ (by omega))
    have sv40 : StV kr kv h36 q_sq17 v_sq17 := s_h15.kept (f_h36 _ (by omega))
    have by41 : ByA z kv h36 v_sq11 (txt 3 false 0 (mkT (cnV kv) 3 0 0).1) := by19.kept (f_h36 _ (by omega))
    have by42 : ByA z kv h36 v_sq17 (txt 3 true 0 (mkT (cnV kv) 3 0 0).1) := y_h15.kept (f_h36 _ (by omega))
    have ob43 := ob20.kept (fun q _ _ => f_h36 q (by omega))
    exact hK true _ _ _ _ _ _ _ _ ob43 sv39 by41 ⟨by omega, by omega, by omega, by omega, by omega⟩ sv40 by42 ⟨by omega, by omega, by omega, by omega, by omega⟩ s_h36 y_h36 ⟨by omega, by omega, by omega, by omega, by omega⟩ (by omega)
