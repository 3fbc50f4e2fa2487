abbrev rmX11_define : Room := { frames := 31, cells := 9, slots := 2889, locals := 1422 }
set_option maxRecDepth 100000 in
set_option maxHeartbeats 4000000 in
theorem c_X11_define (l : Launch) (D : va_G) (z : Nat → ClassId) (B : Heap) (lo hi : Nat) (h : Nat → Option va_E) (o : Nat) (kp : Int32) (k ln nv : Nat) (w9 : Bool) (T : Tre) (tx : Nat → Int32) (pa : Nat → Option Nat) (hO : ObS h o (nI ln) kp) (hT : TpS z h o tx) (hPs : PsS z h o pa) (hRd : RdI z h (o + 3)) (hk : k < 16) (hok : okT nv 0 T) (htx : TxA tx 0 (txt nv w9 0 T)) (hlen : (txt nv w9 0 T).length = ln) (hln : ln ≤ 200) (hsz : siz nv w9 T ≤ 60) (hnv : nv ≤ 4) (hbig : o + 147 ≤ hi) : Met l yX11_define wsX11_define rmX11_define (KP D vwCl B lo hi h (ty6 z) [.ref o, .int (nI k)]) (KQi D vwCl B lo (ty6 z) (fun r hi' h' => r = nI (siz nv w9 T) ∧ hi' = hi + 9 ∧ (∀ q, q < hi → ¬ q = o → ¬ q = o + 1 → (q < o + 3 ∨ o + 14 ≤ q) → h' q = h q) ∧ ObS h' o 0 kp ∧ PsS z h' o (va_up pa k (some hi)) ∧ RdI z h' (o + 3) ∧ ∃ P, PrC z h' hi (nI (siz nv w9 T)) P ∧ MadeP nv w9 T P)) 9 2889 (fun q => lo ≤ q) := by
  refine ax_met (by decide) rfl (Nat.le_of_ble_eq_true rfl) (L0 := [(0, .ref o), (1, .int (nI k))]) rfl ?_
  intro p e s m args below meth c hC hr hlocks hnm hargs
  have iX11 : ∀ w ∈ u_ws RX11 TX11 13, w ∈ wsX11_define := by decide +kernel
  have iX7 : ∀ w ∈ u_ws RX7 TX7 9, w ∈ wsX11_define := by decide +kernel
  have iX8 : ∀ w ∈ u_ws RX8 TX8 5, w ∈ wsX11_define := by decide +kernel
  obtain ⟨xt0, xx1, xx2, xx3, xG, xAr, xq0, -⟩ := id hRd
  refine ax_iload_n hC 1 dX11_define_0 rfl rfl ?_
  refine ax_if_lt (tgt := 13) hC dX11_define_1 (by decide) (fun c1 => ?_) (fun c1 => ?_)
  · exact absurd c1 (nI_pos (by omega))
  · refine ax_iload_n hC 1 dX11_define_4 rfl rfl ?_
    refine ax_aload_n hC 0 dX11_define_5 rfl rfl ?_
    refine ax_getf (v := .ref (o + 1)) hC hO iX11 rfl 0 (by decide) (by decide +kernel) rfl rfl dX11_define_6 ?_
    refine ax_alen (v := 16) hC hPs 5 rfl rfl dX11_define_9 ?_
    refine ax_icmp_lt (tgt := 15) hC dX11_define_10 (by decide) (fun c2 => ?_) (fun c2 => ?_)
    · refine ax_aload_n hC 0 dX11_define_15 rfl rfl ?_
      refine ax_getf (v := .ref (o + 3)) hC hO iX11 rfl 3 (by decide) (by decide +kernel) rfl rfl dX11_define_16 ?_
      refine ax_aload_n hC 0 dX11_define_19 rfl rfl ?_
      refine ax_getf (v := .ref (o + 2)) hC hO iX11 rfl 1 (by decide) (by decide +kernel) rfl rfl dX11_define_20 ?_
      refine ax_aload_n hC 0 dX11_define_23 rfl rfl ?_
      refine ax_getf (v := .int (nI ln)) hC hO iX11 rfl 2 (by decide) (by decide +kernel) rfl rfl dX11_define_24 ?_
      refine ax_callVi (st := []) hC [.ref (o + 2), .int (nI ln)] xq0 rfl (c_X8_read l D z B lo _ h (o + 3) (o + 2) ln nv w9 T tx hRd (by omega) hT hok htx hlen hln hsz hnv) (cwV 2 hC.1.2.2.2.2 gX11_define_X8_read rfl rfl rfl (by decide +kernel) ⟨Nat.le_of_ble_eq_true rfl, Nat.le_of_ble_eq_true rfl⟩) rfl rfl (Nat.le_of_ble_eq_true rfl) dX11_define_27 ⟨Nat.le_of_ble_eq_true rfl, Nat.le_of_ble_eq_true rfl⟩ (fun r3 hi4 h5 hp6 => ?_)
      obtain ⟨er7, ei8, fr9, G10, A11, hR12, hd13⟩ := hp6
      replace ei8 := ei8.symm
      subst ei8
      subst er7
      have x14 : h5 o = some (.inr (13, [.ref (o + 1), .ref (o + 2), .int (nI ln), .ref (o + 3), .ref (o + 15), .ref (o + 21), .ref (o + 23), .ref (o + 26), .ref (o + 32), .ref (o + 40), .ref (o + 41), .ref (o + 94), .int kp])) := (fr9 _ (by omega)).trans hO
      have x15 : h5 (o + 1) = some (.inl (z 5, 16, .inr (.inr (.inr (.inr (pa)))))) := (fr9 _ (by omega)).trans hPs
      have x16 : h5 (o + 2) = some (.inl (z 1, 200, .inl (tx))) := (fr9 _ (by omega)).trans hT
      obtain ⟨t0, t1, t2, t3, t4, t5, t6, t7, t8, t9, t10, t11⟩ := id hR12
      have hPd : PrC z h5 (o + 3 + 1) (nI (siz nv w9 T)) (P6 G10) := ⟨t1, t2, t3, t4, t5, t6, t7, t8, t9⟩
      refine ax_istore_n hC [(2, .int (-1)), (0, .ref o), (1, .int (nI k))] dX11_define_30 rfl (by decide) rfl ?_
      refine ax_aload_n hC 1 dX11_define_31 rfl rfl ?_
      refine ax_iconst (v := 0) hC dX11_define_32 (by decide) ?_
      refine ax_putf (v := .int 0) (ty := .int) hC tyX11 x14 iX11 tyX11_ok nmX11 rfl 2 (by decide) (by decide +kernel) rfl rfl (by decide +kernel) (rfl) rfl (Nat.le_of_ble_eq_true rfl) dX11_define_33 (fun h17 e18 f19 => ?_)
      have e18 : h17 o = some (.inr (13, [.ref (o + 1), .ref (o + 2), .int 0, .ref (o + 3), .ref (o + 15), .ref (o + 21), .ref (o + 23), .ref (o + 26), .ref (o + 32), .ref (o + 40), .ref (o + 41), .ref (o + 94), .int kp])) := e18
      have x20 : h17 (o + 1) = some (.inl (z 5, 16, .inr (.inr (.inr (.inr (pa)))))) := (f19 _ (by omega)).trans x15
      have x21 : h17 (o + 2) = some (.inl (z 1, 200, .inl (tx))) := (f19 _ (by omega)).trans x16
      have x22 : h17 (o + 3) = some (.inr (10, [.ref (o + 3 + 1), .ref (o + 3 + 10), .ref (o + 2), .int (nI ln), .int (nI ln)])) := (f19 _ (by omega)).trans t0
      have pd23 : RdI z h17 (o + 3) := hR12.rest.kept (fun q _ _ => f19 q (by omega))
      have pd24 : PrC z h17 (o + 3 + 1) (nI (siz nv w9 T)) (P6 G10) := hPd.kept (fun q _ _ => f19 q (by omega))
      refine ax_iload_n hC 0 dX11_define_36 rfl rfl ?_
      refine ax_if_lt (tgt := 45) hC dX11_define_37 (by decide) (fun c25 => ?_) (fun c25 => ?_)
      · refine ax_new (C := RX7) (T := TX7) (N := 9) (ci := 9) (fs := [.int 0, .null, .null, .null, .null, .null, .null, .null, .null]) hC tyX7 iX7 tyX7_ok (by decide +kernel) (by decide +kernel) (by decide +kernel) rfl (fun j hj => by rcases (show j = 0 ∨ j = 1 ∨ j = 2 ∨ j = 3 ∨ j = 4 ∨ j = 5 ∨ j = 6 ∨ j = 7 ∨ j = 8 by omega) with rfl | rfl | rfl | rfl | rfl | rfl | rfl | rfl | rfl <;> rfl) (Nat.le_of_ble_eq_true rfl) (Nat.le_of_ble_eq_true rfl) dX11_define_45 (fun h26 e27 f28 => ?_)
        have e27 : h26 hi = some (.inr (9, [.int 0, .null, .null, .null, .null, .null, .null, .null, .null])) := e27
        have x29 : h26 (o + 1) = some (.inl (z 5, 16, .inr (.inr (.inr (.inr (pa)))))) := (f28 _ (by omega)).trans x20
        have x30 : h26 (o + 2) = some (.inl (z 1, 200, .inl (tx))) := (f28 _ (by omega)).trans x21
        have x31 : h26 (o + 3) = some (.inr (10, [.ref (o + 3 + 1), .ref (o + 3 + 10), .ref (o + 2), .int (nI ln), .int (nI ln)])) := (f28 _ (by omega)).trans x22
        have x32 : h26 o = some (.inr (13, [.ref (o + 1), .ref (o + 2), .int 0, .ref (o + 3), .ref (o + 15), .ref (o + 21), .ref (o + 23), .ref (o + 26), .ref (o + 32), .ref (o + 40), .ref (o + 41), .ref (o + 94), .int kp])) := (f28 _ (by omega)).trans e18
        have pd33 : RdI z h26 (o + 3) := pd23.kept (fun q _ _ => f28 q (by omega))
        have pd34 : PrC z h26 (o + 3 + 1) (nI (siz nv w9 T)) (P6 G10) := pd24.kept (fun q _ _ => f28 q (by omega))
        refine ax_dup hC dX11_define_48 rfl ?_
        refine ax_aload_n hC 1 dX11_define_49 rfl rfl ?_
        refine ax_getf (v := .ref (o + 3)) hC x32 iX11 rfl 3 (by decide) (by decide +kernel) rfl rfl dX11_define_50 ?_
        refine ax_getf (v := .ref (o + 3 + 1)) hC x31 iX8 rfl 0 (by decide) (by decide +kernel) rfl rfl dX11_define_53 ?_
        refine ax_callI (st := [.ref hi]) hC [.ref (o + 3 + 1)] (c_X7_init_ l D z B lo _ h26 hi (o + 3 + 1) (siz nv w9 T) 0 (P6 G10) e27 pd34 hsz (Nat.le_refl 60) (by omega) rfl) (cwI 1 hC.1.2.2.2.2 gX11_define_X7_init_ rfl rfl rfl (hC.1.2.2.2.2 _ (by decide +kernel)) (hC.1.2.2.2.2 _ (by decide +kernel)) (hC.1.2.2.2.2 _ (by decide +kernel)) rfl (by decide +kernel) ⟨Nat.le_of_ble_eq_true rfl, Nat.le_of_ble_eq_true rfl⟩) rfl rfl (Nat.le_of_ble_eq_true rfl) dX11_define_56 ⟨Nat.le_of_ble_eq_true rfl, Nat.le_of_ble_eq_true rfl⟩ (fun hi35 h36 hp37 => ?_)
        obtain ⟨ei38, fr39, T40, cd41, pr42⟩ := hp37
        subst ei38
        have x43 : h36 (o + 1) = some (.inl (z 5, 16, .inr (.inr (.inr (.inr (pa)))))) := (fr39 _ (by omega)).trans x29
        have x44 : h36 (o + 2) = some (.inl (z 1, 200, .inl (tx))) := (fr39 _ (by omega)).trans x30
        have x45 : h36 (o + 3) = some (.inr (10, [.ref (o + 3 + 1), .ref (o + 3 + 10), .ref (o + 2), .int (nI ln), .int (nI ln)])) := (fr39 _ (by omega)).trans x31
        have x46 : h36 o = some (.inr (13, [.ref (o + 1), .ref (o + 2), .int 0, .ref (o + 3), .ref (o + 15), .ref (o + 21), .ref (o + 23), .ref (o + 26), .ref (o + 32), .ref (o + 40), .ref (o + 41), .ref (o + 94), .int kp])) := (fr39 _ (by omega)).trans x32
        have pd47 : RdI z h36 (o + 3) := pd33.kept (fun q _ _ => fr39 q (by omega))
        have pd48 : PrC z h36 (o + 3 + 1) (nI (siz nv w9 T)) (P6 G10) := pd34.kept (fun q _ _ => fr39 q (by omega))
        refine ax_astore_n hC [(3, .ref hi), (2, .int (-1)), (0, .ref o), (1, .int (nI k))] dX11_define_59 rfl (by decide) rfl ?_
        refine ax_aload_n hC 2 dX11_define_60 rfl rfl ?_
        refine ax_getf (v := .ref (o + 1)) hC x46 iX11 rfl 0 (by decide) (by decide +kernel) rfl rfl dX11_define_61 ?_
        refine ax_iload_n hC 3 dX11_define_64 rfl rfl ?_
        refine ax_aload_n hC 0 dX11_define_65 rfl rfl ?_
        refine ax_aast hC x43 5 rfl pr42.1 rfl (vp_in_nI (by omega) (by omega)) dX11_define_66 (fun h49 e50 f51 => ?_)
        rw [nI_clamp (by omega)] at e50
        have x52 : h49 (o + 2) = some (.inl (z 1, 200, .inl (tx))) := (f51 _ (by omega)).trans x44
        have x53 : h49 (o + 3) = some (.inr (10, [.ref (o + 3 + 1), .ref (o + 3 + 10), .ref (o + 2), .int (nI ln), .int (nI ln)])) := (f51 _ (by omega)).trans x45
        have x54 : h49 o = some (.inr (13, [.ref (o + 1), .ref (o + 2), .int 0, .ref (o + 3), .ref (o + 15), .ref (o + 21), .ref (o + 23), .ref (o + 26), .ref (o + 32), .ref (o + 40), .ref (o + 41), .ref (o + 94), .int kp])) := (f51 _ (by omega)).trans x46
        have pd55 : RdI z h49 (o + 3) := pd47.kept (fun q _ _ => f51 q (by omega))
        have pd56 : PrC z h49 (o + 3 + 1) (nI (siz nv w9 T)) (P6 G10) := pd48.kept (fun q _ _ => f51 q (by omega))
        have pd57 : PrC z h49 hi (nI (siz nv w9 T)) T40 := pr42.kept (fun q _ _ => f51 q (by omega))
        refine ax_aload_n hC 0 dX11_define_67 rfl rfl ?_
        refine ax_getf (v := .int (nI (siz nv w9 T))) hC pd57.1 iX7 rfl 0 (by decide) (by decide +kernel) rfl rfl dX11_define_68 ?_
        refine ax_widen (k := 9) (n := 2889) (by omega) (by omega) ?_
        refine ax_iret hC hr hlocks dX11_define_71 ?_
        exact ⟨rfl, rfl, fun q hq hq2 hq3 hq4 => ((f51 q (by omega)).trans ((fr39 q (by omega)).trans ((f28 q (by omega)).trans ((f19 q (by omega)).trans (fr9 q (by omega)))))), x54, e50, pd55, T40, pd57, hd13.made hok hsz hnv cd41⟩
      · exact absurd c25 (by decide)
    · exact absurd (nI_lt (a := k) (b := 16) (by omega) (by decide)) c2

abbrev rmX11_dual : Room := { frames := 4, cells := 9, slots := 2889, locals := 106 }
set_option maxRecDepth 100000 in
set_option maxHeartbeats 4000000 in
theorem c_X11_dual (l : Launch) (D : va_G) (z : Nat → ClassId) (B : Heap) (lo hi : Nat) (h : Nat → Option va_E) (o : Nat) (on kp : Int32) (k k2 a : Nat) (T : PT) (pa : Nat → Option Nat) (hO : ObS h o on kp) (hPs : PsS z h o pa) (hk : k < 16) (hk2 : k2 < 16) (hpk : pa k = some a) (hP : PrC z h a (nI (pcap T)) T) (hcap : pcap T ≤ 60) (hba : o + 147 ≤ a) (hbig : o + 147 ≤ hi) : Met l yX11_dual wsX11_dual rmX11_dual (KP D vwCl B lo hi h (ty6 z) [.ref o, .int (nI k), .int (nI k2)]) (KQi D vwCl B lo (ty6 z) (fun r hi' h' => r = nI (pcap T) ∧ hi' = hi + 9 ∧ (∀ q, q < hi → ¬ q = o + 1 → h' q = h q) ∧ PsS z h' o (va_up pa k2 (some hi)) ∧ ∃ T', PrC z h' hi (nI (pcap T)) T' ∧ TurnD T T')) 9 2889 (fun q => lo ≤ q) := by
  refine ax_met (by decide) rfl (Nat.le_of_ble_eq_true rfl) (L0 := [(0, .ref o), (1, .int (nI k)), (2, .int (nI k2))]) rfl ?_
  intro p e s m args below meth c hC hr hlocks hnm hargs
  have iX11 : ∀ w ∈ u_ws RX11 TX11 13, w ∈ wsX11_dual := by decide +kernel
  have iX7 : ∀ w ∈ u_ws RX7 TX7 9, w ∈ wsX11_dual := by decide +kernel
  refine ax_tell hP.2.2.2.2.2.2.2.2 (fun ta_0 => ?_)
  refine ax_aload_n hC 0 dX11_dual_0 rfl rfl ?_
  refine ax_iload_n hC 1 dX11_dual_1 rfl rfl ?_
  refine ax_callVq (st := []) hC [.int (nI k)] hO rfl (c_X11_protocolAt l D z B lo _ h o on kp k pa hO hPs (by omega)) (cwV 1 hC.1.2.2.2.2 gX11_dual_X11_protocolAt rfl rfl rfl (by decide +kernel) ⟨Nat.le_of_ble_eq_true rfl, Nat.le_of_ble_eq_true rfl⟩) rfl rfl (Nat.le_of_ble_eq_true rfl) dX11_dual_2 ⟨Nat.le_of_ble_eq_true rfl, Nat.le_of_ble_eq_true rfl⟩ (fun r1 hi2 h3 hp4 => ?_)
  obtain ⟨er5, ei6, eh7⟩ := hp4
  subst er5
  replace ei6 := ei6.symm
  subst ei6
  replace eh7 := eh7.symm
  subst eh7
  refine ax_eqq (y := some a) (hpk) ?_
  refine ax_astore_n hC [(3, .ref a), (0, .ref o), (1, .int (nI k)), (2, .int (nI k2))] dX11_dual_5 rfl (by decide) rfl ?_
  refine ax_aload_n hC 0 dX11_dual_6 rfl rfl ?_
  refine ax_ifnull hC dX11_dual_7 ?_
  refine ax_iload_n hC 3 dX11_dual_10 rfl rfl ?_
  refine ax_if_lt (tgt := 23) hC dX11_dual_11 (by decide) (fun c8 => ?_) (fun c8 => ?_)
  · exact absurd c8 (nI_pos (by omega))
  · refine ax_iload_n hC 3 dX11_dual_14 rfl rfl ?_
    refine ax_aload_n hC 1 dX11_dual_15 rfl rfl ?_
    refine ax_getf (v := .ref (o + 1)) hC hO iX11 rfl 0 (by decide) (by decide +kernel) rfl rfl dX11_dual_16 ?_
    refine ax_alen (v := 16) hC hPs 5 rfl rfl dX11_dual_19 ?_
    refine ax_icmp_lt (tgt := 25) hC dX11_dual_20 (by decide) (fun c9 => ?_) (fun c9 => ?_)
    · refine ax_aload_n hC 0 dX11_dual_25 rfl rfl ?_
      refine ax_callVq (st := []) hC [] hP.1 rfl (c_X7_turned l D z B lo _ h a T hP hcap) (cwV 0 hC.1.2.2.2.2 gX11_dual_X7_turned rfl rfl rfl (by decide +kernel) ⟨Nat.le_of_ble_eq_true rfl, Nat.le_of_ble_eq_true rfl⟩) rfl rfl (Nat.le_of_ble_eq_true rfl) dX11_dual_26 ⟨Nat.le_of_ble_eq_true rfl, Nat.le_of_ble_eq_true rfl⟩ (fun r10 hi11 h12 hp13 => ?_)
      obtain ⟨ei14, fr15, er16, T17, td18, pr19⟩ := hp13
      subst ei14
      subst er16
      have x20 : h12 o = some (.inr (13, [.ref (o + 1), .ref (o + 2), .int on, .ref (o + 3), .ref (o + 15), .ref (o + 21), .ref (o + 23), .ref (o + 26), .ref (o + 32), .ref (o + 40), .ref (o + 41), .ref (o + 94), .int kp])) := (fr15 _ (by omega)).trans hO
      have x21 : h12 (o + 1) = some (.inl (z 5, 16, .inr (.inr (.inr (.inr (pa)))))) := (fr15 _ (by omega)).trans hPs
      have hp_22 : PrC z h12 a _ T := hP.kept (fun q _ _ => fr15 q (by omega))
      refine ax_astore hC [(4, .ref hi), (3, .ref a), (0, .ref o), (1, .int (nI k)), (2, .int (nI k2))] dX11_dual_29 (by decide) rfl ?_
      refine ax_aload_n hC 2 dX11_dual_31 rfl rfl ?_
      refine ax_getf (v := .ref (o + 1)) hC x20 iX11 rfl 0 (by decide) (by decide +kernel) rfl rfl dX11_dual_32 ?_
      refine ax_iload_n hC 4 dX11_dual_35 rfl rfl ?_
      refine ax_aload hC 0 dX11_dual_36 rfl ?_
      refine ax_aast hC x21 5 rfl pr19.1 rfl (vp_in_nI (by omega) (by omega)) dX11_dual_38 (fun h23 e24 f25 => ?_)
      rw [nI_clamp (by omega)] at e24
      have x26 : h23 o = some (.inr (13, [.ref (o + 1), .ref (o + 2), .int on, .ref (o + 3), .ref (o + 15), .ref (o + 21), .ref (o + 23), .ref (o + 26), .ref (o + 32), .ref (o + 40), .ref (o + 41), .ref (o + 94), .int kp])) := (f25 _ (by omega)).trans x20
      have pd27 : PrC z h23 hi (nI (pcap T)) T17 := pr19.kept (fun q _ _ => f25 q (by omega))
      have hp_28 : PrC z h23 a _ T := hp_22.kept (fun q _ _ => f25 q (by omega))
      refine ax_aload hC 0 dX11_dual_39 rfl ?_
      refine ax_getf (v := .int (nI (pcap T))) hC pd27.1 iX7 rfl 0 (by decide) (by decide +kernel) rfl rfl dX11_dual_41 ?_
      refine ax_widen (k := 9) (n := 2889) (by omega) (by omega) ?_
      refine ax_iret hC hr hlocks dX11_dual_44 ?_
      exact ⟨rfl, rfl, fun q hq hq2 => ((f25 q (by omega)).trans (fr15 q (by omega))), e24, T17, pd27, td18⟩
    · exact absurd (nI_lt (a := k2) (b := 16) (by omega) (by decide)) c9
