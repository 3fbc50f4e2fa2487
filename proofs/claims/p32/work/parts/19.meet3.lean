def MtC (z : Nat → ClassId) (h : Nat → Option va_E) (mt cm : Nat) (t0 t1 : Option Nat) (nr ov : Int32) : Prop := ∃ (fo jams clashes fewest most : Int32) (pl : Nat → Int64) (mv sl ft : Nat → Int32) (tk : Nat → Option Nat) (ats lns : Nat → Int32), h mt = some (.inr (6, [.int fo, .int jams, .int clashes, .int fewest, .int most, .ref cm, .ref (mt + 1), .ref (mt + 2), .ref (mt + 3), .ref (mt + 4), .ref (mt + 5), .ref (mt + 6), .ref (mt + 7), .int nr, .int ov])) ∧ h (mt + 1) = some (.inl (z 2, 3000, .inr (.inl pl))) ∧ h (mt + 2) = some (.inl (z 1, 3000, .inl mv)) ∧ h (mt + 3) = some (.inl (z 1, 8192, .inl sl)) ∧ h (mt + 4) = some (.inl (z 0, 7200, .inl ft)) ∧ h (mt + 5) = some (.inl (z 5, 2, .inr (.inr (.inr (.inr tk))))) ∧ h (mt + 6) = some (.inl (z 1, 2, .inl ats)) ∧ h (mt + 7) = some (.inl (z 1, 2, .inl lns)) ∧ tk 0 = t0 ∧ tk 1 = t1 ∧ (ov = 0 ∨ ov = 1) ∧ (t0 = none ∨ (jams = 0 ∧ clashes = 0 ∧ fewest = -2))
theorem vu0 (f : Nat → Option Nat) (x y : Option Nat) : va_up (va_up f (0 : Int32).toNatClampNeg x) (1 : Int32).toNatClampNeg y 0 = x := by simp [va_up, show (0 : Int32).toNatClampNeg = 0 from rfl, show (1 : Int32).toNatClampNeg = 1 from rfl]
theorem vu1 (f : Nat → Option Nat) (x y : Option Nat) : va_up (va_up f (0 : Int32).toNatClampNeg x) (1 : Int32).toNatClampNeg y 1 = y := by simp [va_up, show (1 : Int32).toNatClampNeg = 1 from rfl]

abbrev rmX4_begin : Room := { frames := 1, cells := 0, slots := 0, locals := 23 }
set_option maxRecDepth 100000 in
set_option maxHeartbeats 4000000 in
theorem c_X4_begin (l : Launch) (D : va_G) (z : Nat → ClassId) (B : Heap) (lo hi : Nat) (h : Nat → Option va_E) (mt cm aF aG : Nat) (nr nr0 ov0 : Int32) (t0 t1 : Option Nat) (TF TG : PT) (W : Nat → Nat → Prop) (ndF ndG : Int32) (hX : MtC z h mt cm t0 t1 nr0 ov0) (hF : PrC z h aF ndF TF) (hG : PrC z h aG ndG TG) (hwF : wfP TF) (hwG : wfP TG) (hmF : mt + 8 ≤ aF) (hmG : mt + 8 ≤ aG) : Met l yX4_begin wsX4_begin rmX4_begin (KP D vwCl B lo hi h (ty6 z) [.ref mt, .ref aF, .ref aG, .int nr]) (KQv D vwCl B lo (ty6 z) (fun hi' h' => hi' = hi ∧ (∀ q, (q < mt ∨ mt + 8 ≤ q) → h' q = h q) ∧ MtX z h' mt cm aF aG nr TF TG W (sN TF 0) (sN TG 0) 0 0)) 0 0 (fun q => lo ≤ q) := by
  obtain ⟨fo, jams, clashes, fewest, most, pl, mv, sl, ft, tk, ats, lns, q0, q1, q2, q3, q4, q5, q6, q7, hk0, hk1, hov, hcl⟩ := hX
  have hwF1 := hwF.1
  have hwG1 := hwG.1
  refine ax_met (by decide) rfl (Nat.le_of_ble_eq_true rfl) (L0 := [(0, .ref mt), (1, .ref aF), (2, .ref aG), (3, .int nr)]) rfl ?_
  intro p e s m args below meth c hC hr hlocks hnm hargs
  have iX4 : ∀ w ∈ u_ws RX4 TX4 15, w ∈ wsX4_begin := by decide +kernel
  refine ax_aload_n hC 0 dX4_begin_0 rfl rfl ?_
  refine ax_getf (v := .ref (mt + 3)) hC q0 iX4 rfl 8 (by decide) (by decide +kernel) rfl rfl dX4_begin_1 ?_
  refine ax_iconst (v := 0) hC dX4_begin_4 (by decide) ?_
  refine ax_callSv (st := []) hC [.ref (mt + 3), .int 0] (c_J7_fill_53178 l D z B lo _ h (mt + 3) 8192 sl 0 q3 (by decide)) (va_cwS 2 hC.1.2.2.2.2 gX4_begin_J7_fill_53178 rfl rfl rfl (by decide +kernel) ⟨Nat.le_of_ble_eq_true rfl, Nat.le_of_ble_eq_true rfl⟩) rfl rfl (Nat.le_of_ble_eq_true rfl) dX4_begin_5 ⟨Nat.le_of_ble_eq_true rfl, Nat.le_of_ble_eq_true rfl⟩ (fun hi1 h2 hp3 => ?_)
  obtain ⟨ei4, fr5, fl6, ef7, zf8⟩ := hp3
  replace ei4 := ei4.symm
  subst ei4
  have x9 : h2 mt = some (.inr (6, [.int fo, .int jams, .int clashes, .int fewest, .int most, .ref cm, .ref (mt + 1), .ref (mt + 2), .ref (mt + 3), .ref (mt + 4), .ref (mt + 5), .ref (mt + 6), .ref (mt + 7), .int nr0, .int ov0])) := (fr5 _ (by omega)).trans q0
  have x10 : h2 (mt + 1) = some (.inl (z 2, 3000, .inr (.inl (pl)))) := (fr5 _ (by omega)).trans q1
  have x11 : h2 (mt + 2) = some (.inl (z 1, 3000, .inl (mv))) := (fr5 _ (by omega)).trans q2
  have x12 : h2 (mt + 4) = some (.inl (z 0, 7200, .inl (ft))) := (fr5 _ (by omega)).trans q4
  have x13 : h2 (mt + 5) = some (.inl (z 5, 2, .inr (.inr (.inr (.inr (tk)))))) := (fr5 _ (by omega)).trans q5
  have x14 : h2 (mt + 6) = some (.inl (z 1, 2, .inl (ats))) := (fr5 _ (by omega)).trans q6
  have x15 : h2 (mt + 7) = some (.inl (z 1, 2, .inl (lns))) := (fr5 _ (by omega)).trans q7
  have hp_16 : PrC z h2 aF _ TF := hF.kept (fun q _ _ => fr5 q (by omega))
  have hp_17 : PrC z h2 aG _ TG := hG.kept (fun q _ _ => fr5 q (by omega))
  refine ax_aload_n hC 0 dX4_begin_8 rfl rfl ?_
  refine ax_getf (v := .ref (mt + 4)) hC x9 iX4 rfl 9 (by decide) (by decide +kernel) rfl rfl dX4_begin_9 ?_
  refine ax_iconst (v := 0) hC dX4_begin_12 (by decide) ?_
  refine ax_callSv (st := []) hC [.ref (mt + 4), .int 0] (c_J7_fill_031fb l D z B lo _ h2 (mt + 4) 7200 ft 0 x12 (by decide) (by decide)) (va_cwS 2 hC.1.2.2.2.2 gX4_begin_J7_fill_031fb rfl rfl rfl (by decide +kernel) ⟨Nat.le_of_ble_eq_true rfl, Nat.le_of_ble_eq_true rfl⟩) rfl rfl (Nat.le_of_ble_eq_true rfl) dX4_begin_13 ⟨Nat.le_of_ble_eq_true rfl, Nat.le_of_ble_eq_true rfl⟩ (fun hi18 h19 hp20 => ?_)
  obtain ⟨ei21, fr22, fl23, ef24, zf25⟩ := hp20
  replace ei21 := ei21.symm
  subst ei21
  have x26 : h19 mt = some (.inr (6, [.int fo, .int jams, .int clashes, .int fewest, .int most, .ref cm, .ref (mt + 1), .ref (mt + 2), .ref (mt + 3), .ref (mt + 4), .ref (mt + 5), .ref (mt + 6), .ref (mt + 7), .int nr0, .int ov0])) := (fr22 _ (by omega)).trans x9
  have x27 : h19 (mt + 1) = some (.inl (z 2, 3000, .inr (.inl (pl)))) := (fr22 _ (by omega)).trans x10
  have x28 : h19 (mt + 2) = some (.inl (z 1, 3000, .inl (mv))) := (fr22 _ (by omega)).trans x11
  have x29 : h19 (mt + 5) = some (.inl (z 5, 2, .inr (.inr (.inr (.inr (tk)))))) := (fr22 _ (by omega)).trans x13
  have x30 : h19 (mt + 6) = some (.inl (z 1, 2, .inl (ats))) := (fr22 _ (by omega)).trans x14
  have x31 : h19 (mt + 7) = some (.inl (z 1, 2, .inl (lns))) := (fr22 _ (by omega)).trans x15
  have x32 : h19 (mt + 3) = some (.inl (z 1, 8192, .inl (fl6))) := (fr22 _ (by omega)).trans ef7
  have hp_33 : PrC z h19 aF _ TF := hp_16.kept (fun q _ _ => fr22 q (by omega))
  have hp_34 : PrC z h19 aG _ TG := hp_17.kept (fun q _ _ => fr22 q (by omega))
  refine ax_aload_n hC 0 dX4_begin_16 rfl rfl ?_
  refine ax_getf (v := .ref (mt + 5)) hC x26 iX4 rfl 10 (by decide) (by decide +kernel) rfl rfl dX4_begin_17 ?_
  refine ax_iconst (v := 0) hC dX4_begin_20 (by decide) ?_
  refine ax_aload_n hC 1 dX4_begin_21 rfl rfl ?_
  have b35 : vp_in 0 2 := vp_in_iff.mpr (by decide)
  refine ax_aast hC x29 5 rfl hp_33.1 rfl b35 dX4_begin_22 (fun h36 e37 f38 => ?_)
  have x39 : h36 mt = some (.inr (6, [.int fo, .int jams, .int clashes, .int fewest, .int most, .ref cm, .ref (mt + 1), .ref (mt + 2), .ref (mt + 3), .ref (mt + 4), .ref (mt + 5), .ref (mt + 6), .ref (mt + 7), .int nr0, .int ov0])) := (f38 _ (by omega)).trans x26
  have x40 : h36 (mt + 1) = some (.inl (z 2, 3000, .inr (.inl (pl)))) := (f38 _ (by omega)).trans x27
  have x41 : h36 (mt + 2) = some (.inl (z 1, 3000, .inl (mv))) := (f38 _ (by omega)).trans x28
  have x42 : h36 (mt + 6) = some (.inl (z 1, 2, .inl (ats))) := (f38 _ (by omega)).trans x30
  have x43 : h36 (mt + 7) = some (.inl (z 1, 2, .inl (lns))) := (f38 _ (by omega)).trans x31
  have x44 : h36 (mt + 3) = some (.inl (z 1, 8192, .inl (fl6))) := (f38 _ (by omega)).trans x32
  have x45 : h36 (mt + 4) = some (.inl (z 0, 7200, .inl (fl23))) := (f38 _ (by omega)).trans ef24
  have hp_46 : PrC z h36 aF _ TF := hp_33.kept (fun q _ _ => f38 q (by omega))
  have hp_47 : PrC z h36 aG _ TG := hp_34.kept (fun q _ _ => f38 q (by omega))
  refine ax_aload_n hC 0 dX4_begin_23 rfl rfl ?_
  refine ax_getf (v := .ref (mt + 5)) hC x39 iX4 rfl 10 (by decide) (by decide +kernel) rfl rfl dX4_begin_24 ?_
  refine ax_iconst (v := 1) hC dX4_begin_27 (by decide) ?_
  refine ax_aload_n hC 2 dX4_begin_28 rfl rfl ?_
  have b48 : vp_in 1 2 := vp_in_iff.mpr (by decide)
  refine ax_aast hC e37 5 rfl hp_47.1 rfl b48 dX4_begin_29 (fun h49 e50 f51 => ?_)
  have x52 : h49 mt = some (.inr (6, [.int fo, .int jams, .int clashes, .int fewest, .int most, .ref cm, .ref (mt + 1), .ref (mt + 2), .ref (mt + 3), .ref (mt + 4), .ref (mt + 5), .ref (mt + 6), .ref (mt + 7), .int nr0, .int ov0])) := (f51 _ (by omega)).trans x39
  have x53 : h49 (mt + 1) = some (.inl (z 2, 3000, .inr (.inl (pl)))) := (f51 _ (by omega)).trans x40
  have x54 : h49 (mt + 2) = some (.inl (z 1, 3000, .inl (mv))) := (f51 _ (by omega)).trans x41
  have x55 : h49 (mt + 6) = some (.inl (z 1, 2, .inl (ats))) := (f51 _ (by omega)).trans x42
  have x56 : h49 (mt + 7) = some (.inl (z 1, 2, .inl (lns))) := (f51 _ (by omega)).trans x43
  have x57 : h49 (mt + 3) = some (.inl (z 1, 8192, .inl (fl6))) := (f51 _ (by omega)).trans x44
  have x58 : h49 (mt + 4) = some (.inl (z 0, 7200, .inl (fl23))) := (f51 _ (by omega)).trans x45
  have hp_59 : PrC z h49 aF _ TF := hp_46.kept (fun q _ _ => f51 q (by omega))
  have hp_60 : PrC z h49 aG _ TG := hp_47.kept (fun q _ _ => f51 q (by omega))
  refine ax_aload_n hC 0 dX4_begin_30 rfl rfl ?_
  refine ax_getf (v := .ref (mt + 6)) hC x52 iX4 rfl 11 (by decide) (by decide +kernel) rfl rfl dX4_begin_31 ?_
  refine ax_iconst (v := 0) hC dX4_begin_34 (by decide) ?_
  refine ax_aload_n hC 1 dX4_begin_35 rfl rfl ?_
  refine ax_callVp (st := [.int 0, .ref (mt + 6)]) hC [] hp_59.1 rfl (c_X7_beginning l D z B lo _ h49 aF _ TF hp_59 hwF.1) (cwV 0 hC.1.2.2.2.2 gX4_begin_X7_beginning rfl rfl rfl (by decide +kernel) ⟨Nat.le_of_ble_eq_true rfl, Nat.le_of_ble_eq_true rfl⟩) rfl rfl (Nat.le_of_ble_eq_true rfl) dX4_begin_36 ⟨Nat.le_of_ble_eq_true rfl, Nat.le_of_ble_eq_true rfl⟩ (fun r61 er62 => ?_)
  subst er62
  refine ax_eqi (y := nI (sN TF 0)) ((sN_eq hwF 0).1) ?_
  have b63 : vp_in 0 2 := vp_in_iff.mpr (by decide)
  refine ax_iast hC x55 1 rfl b63 dX4_begin_39 (fun h64 e65 f66 => ?_)
  have x67 : h64 mt = some (.inr (6, [.int fo, .int jams, .int clashes, .int fewest, .int most, .ref cm, .ref (mt + 1), .ref (mt + 2), .ref (mt + 3), .ref (mt + 4), .ref (mt + 5), .ref (mt + 6), .ref (mt + 7), .int nr0, .int ov0])) := (f66 _ (by omega)).trans x52
  have x68 : h64 (mt + 1) = some (.inl (z 2, 3000, .inr (.inl (pl)))) := (f66 _ (by omega)).trans x53
  have x69 : h64 (mt + 2) = some (.inl (z 1, 3000, .inl (mv))) := (f66 _ (by omega)).trans x54
  have x70 : h64 (mt + 7) = some (.inl (z 1, 2, .inl (lns))) := (f66 _ (by omega)).trans x56
  have x71 : h64 (mt + 3) = some (.inl (z 1, 8192, .inl (fl6))) := (f66 _ (by omega)).trans x57
  have x72 : h64 (mt + 4) = some (.inl (z 0, 7200, .inl (fl23))) := (f66 _ (by omega)).trans x58
  have x73 : h64 (mt + 5) = some (.inl (z 5, 2, .inr (.inr (.inr (.inr (va_up (va_up tk (0 : Int32).toNatClampNeg (some aF)) (1 : Int32).toNatClampNeg (some aG))))))) := (f66 _ (by omega)).trans e50
  have hp_74 : PrC z h64 aF _ TF := hp_59.kept (fun q _ _ => f66 q (by omega))
  have hp_75 : PrC z h64 aG _ TG := hp_60.kept (fun q _ _ => f66 q (by omega))
  refine ax_aload_n hC 0 dX4_begin_40 rfl rfl ?_
  refine ax_getf (v := .ref (mt + 6)) hC x67 iX4 rfl 11 (by decide) (by decide +kernel) rfl rfl dX4_begin_41 ?_
  refine ax_iconst (v := 1) hC dX4_begin_44 (by decide) ?_
  refine ax_aload_n hC 2 dX4_begin_45 rfl rfl ?_
  refine ax_callVp (st := [.int 1, .ref (mt + 6)]) hC [] hp_75.1 rfl (c_X7_beginning l D z B lo _ h64 aG _ TG hp_75 hwG.1) (cwV 0 hC.1.2.2.2.2 gX4_begin_X7_beginning rfl rfl rfl (by decide +kernel) ⟨Nat.le_of_ble_eq_true rfl, Nat.le_of_ble_eq_true rfl⟩) rfl rfl (Nat.le_of_ble_eq_true rfl) dX4_begin_46 ⟨Nat.le_of_ble_eq_true rfl, Nat.le_of_ble_eq_true rfl⟩ (fun r76 er77 => ?_)
  subst er77
  refine ax_eqi (y := nI (sN TG 0)) ((sN_eq hwG 0).1) ?_
  have b78 : vp_in 1 2 := vp_in_iff.mpr (by decide)
  refine ax_iast hC e65 1 rfl b78 dX4_begin_49 (fun h79 e80 f81 => ?_)
  have x82 : h79 mt = some (.inr (6, [.int fo, .int jams, .int clashes, .int fewest, .int most, .ref cm, .ref (mt + 1), .ref (mt + 2), .ref (mt + 3), .ref (mt + 4), .ref (mt + 5), .ref (mt + 6), .ref (mt + 7), .int nr0, .int ov0])) := (f81 _ (by omega)).trans x67
  have x83 : h79 (mt + 1) = some (.inl (z 2, 3000, .inr (.inl (pl)))) := (f81 _ (by omega)).trans x68
  have x84 : h79 (mt + 2) = some (.inl (z 1, 3000, .inl (mv))) := (f81 _ (by omega)).trans x69
  have x85 : h79 (mt + 7) = some (.inl (z 1, 2, .inl (lns))) := (f81 _ (by omega)).trans x70
  have x86 : h79 (mt + 3) = some (.inl (z 1, 8192, .inl (fl6))) := (f81 _ (by omega)).trans x71
  have x87 : h79 (mt + 4) = some (.inl (z 0, 7200, .inl (fl23))) := (f81 _ (by omega)).trans x72
  have x88 : h79 (mt + 5) = some (.inl (z 5, 2, .inr (.inr (.inr (.inr (va_up (va_up tk (0 : Int32).toNatClampNeg (some aF)) (1 : Int32).toNatClampNeg (some aG))))))) := (f81 _ (by omega)).trans x73
  have hp_89 : PrC z h79 aF _ TF := hp_74.kept (fun q _ _ => f81 q (by omega))
  have hp_90 : PrC z h79 aG _ TG := hp_75.kept (fun q _ _ => f81 q (by omega))
  refine ax_aload_n hC 0 dX4_begin_50 rfl rfl ?_
  refine ax_getf (v := .ref (mt + 7)) hC x82 iX4 rfl 12 (by decide) (by decide +kernel) rfl rfl dX4_begin_51 ?_
  refine ax_iconst (v := 0) hC dX4_begin_54 (by decide) ?_
  refine ax_iconst (v := 0) hC dX4_begin_55 (by decide) ?_
  have b91 : vp_in 0 2 := vp_in_iff.mpr (by decide)
  refine ax_iast hC x85 1 rfl b91 dX4_begin_56 (fun h92 e93 f94 => ?_)
  have x95 : h92 mt = some (.inr (6, [.int fo, .int jams, .int clashes, .int fewest, .int most, .ref cm, .ref (mt + 1), .ref (mt + 2), .ref (mt + 3), .ref (mt + 4), .ref (mt + 5), .ref (mt + 6), .ref (mt + 7), .int nr0, .int ov0])) := (f94 _ (by omega)).trans x82
  have x96 : h92 (mt + 1) = some (.inl (z 2, 3000, .inr (.inl (pl)))) := (f94 _ (by omega)).trans x83
  have x97 : h92 (mt + 2) = some (.inl (z 1, 3000, .inl (mv))) := (f94 _ (by omega)).trans x84
  have x98 : h92 (mt + 3) = some (.inl (z 1, 8192, .inl (fl6))) := (f94 _ (by omega)).trans x86
  have x99 : h92 (mt + 4) = some (.inl (z 0, 7200, .inl (fl23))) := (f94 _ (by omega)).trans x87
  have x100 : h92 (mt + 5) = some (.inl (z 5, 2, .inr (.inr (.inr (.inr (va_up (va_up tk (0 : Int32).toNatClampNeg (some aF)) (1 : Int32).toNatClampNeg (some aG))))))) := (f94 _ (by omega)).trans x88
  have x101 : h92 (mt + 6) = some (.inl (z 1, 2, .inl (upd (upd ats (0 : Int32).toNatClampNeg (nI (sN TF 0))) (1 : Int32).toNatClampNeg (nI (sN TG 0))))) := (f94 _ (by omega)).trans e80
  have hp_102 : PrC z h92 aF _ TF := hp_89.kept (fun q _ _ => f94 q (by omega))
  have hp_103 : PrC z h92 aG _ TG := hp_90.kept (fun q _ _ => f94 q (by omega))
  refine ax_aload_n hC 0 dX4_begin_57 rfl rfl ?_
  refine ax_getf (v := .ref (mt + 7)) hC x95 iX4 rfl 12 (by decide) (by decide +kernel) rfl rfl dX4_begin_58 ?_
  refine ax_iconst (v := 1) hC dX4_begin_61 (by decide) ?_
  refine ax_iconst (v := 0) hC dX4_begin_62 (by decide) ?_
  have b104 : vp_in 1 2 := vp_in_iff.mpr (by decide)
  refine ax_iast hC e93 1 rfl b104 dX4_begin_63 (fun h105 e106 f107 => ?_)
  have x108 : h105 mt = some (.inr (6, [.int fo, .int jams, .int clashes, .int fewest, .int most, .ref cm, .ref (mt + 1), .ref (mt + 2), .ref (mt + 3), .ref (mt + 4), .ref (mt + 5), .ref (mt + 6), .ref (mt + 7), .int nr0, .int ov0])) := (f107 _ (by omega)).trans x95
  have x109 : h105 (mt + 1) = some (.inl (z 2, 3000, .inr (.inl (pl)))) := (f107 _ (by omega)).trans x96
  have x110 : h105 (mt + 2) = some (.inl (z 1, 3000, .inl (mv))) := (f107 _ (by omega)).trans x97
  have x111 : h105 (mt + 3) = some (.inl (z 1, 8192, .inl (fl6))) := (f107 _ (by omega)).trans x98
  have x112 : h105 (mt + 4) = some (.inl (z 0, 7200, .inl (fl23))) := (f107 _ (by omega)).trans x99
  have x113 : h105 (mt + 5) = some (.inl (z 5, 2, .inr (.inr (.inr (.inr (va_up (va_up tk (0 : Int32).toNatClampNeg (some aF)) (1 : Int32).toNatClampNeg (some aG))))))) := (f107 _ (by omega)).trans x100
  have x114 : h105 (mt + 6) = some (.inl (z 1, 2, .inl (upd (upd ats (0 : Int32).toNatClampNeg (nI (sN TF 0))) (1 : Int32).toNatClampNeg (nI (sN TG 0))))) := (f107 _ (by omega)).trans x101
  have hp_115 : PrC z h105 aF _ TF := hp_102.kept (fun q _ _ => f107 q (by omega))
  have hp_116 : PrC z h105 aG _ TG := hp_103.kept (fun q _ _ => f107 q (by omega))
  refine ax_aload_n hC 0 dX4_begin_64 rfl rfl ?_
  refine ax_iload_n hC 3 dX4_begin_65 rfl rfl ?_
  refine ax_putf (v := .int nr) (ty := .int) hC tyX4 x108 iX4 tyX4_ok nmX4 rfl 13 (by decide) (by decide +kernel) rfl rfl (by decide +kernel) (rfl) rfl (Nat.le_of_ble_eq_true rfl) dX4_begin_66 (fun h117 e118 f119 => ?_)
  have e118 : h117 mt = some (.inr (6, [.int fo, .int jams, .int clashes, .int fewest, .int most, .ref cm, .ref (mt + 1), .ref (mt + 2), .ref (mt + 3), .ref (mt + 4), .ref (mt + 5), .ref (mt + 6), .ref (mt + 7), .int nr, .int ov0])) := e118
  have x120 : h117 (mt + 1) = some (.inl (z 2, 3000, .inr (.inl (pl)))) := (f119 _ (by omega)).trans x109
  have x121 : h117 (mt + 2) = some (.inl (z 1, 3000, .inl (mv))) := (f119 _ (by omega)).trans x110
  have x122 : h117 (mt + 3) = some (.inl (z 1, 8192, .inl (fl6))) := (f119 _ (by omega)).trans x111
  have x123 : h117 (mt + 4) = some (.inl (z 0, 7200, .inl (fl23))) := (f119 _ (by omega)).trans x112
  have x124 : h117 (mt + 5) = some (.inl (z 5, 2, .inr (.inr (.inr (.inr (va_up (va_up tk (0 : Int32).toNatClampNeg (some aF)) (1 : Int32).toNatClampNeg (some aG))))))) := (f119 _ (by omega)).trans x113
  have x125 : h117 (mt + 6) = some (.inl (z 1, 2, .inl (upd (upd ats (0 : Int32).toNatClampNeg (nI (sN TF 0))) (1 : Int32).toNatClampNeg (nI (sN TG 0))))) := (f119 _ (by omega)).trans x114
  have x126 : h117 (mt + 7) = some (.inl (z 1, 2, .inl (upd (upd lns (0 : Int32).toNatClampNeg 0) (1 : Int32).toNatClampNeg 0))) := (f119 _ (by omega)).trans e106
  have hp_127 : PrC z h117 aF _ TF := hp_115.kept (fun q _ _ => f119 q (by omega))
  have hp_128 : PrC z h117 aG _ TG := hp_116.kept (fun q _ _ => f119 q (by omega))
  refine ax_aload_n hC 0 dX4_begin_69 rfl rfl ?_
  refine ax_iconst (v := 0) hC dX4_begin_70 (by decide) ?_
  refine ax_putf (v := .int 0) (ty := .int) hC tyX4 e118 iX4 tyX4_ok nmX4 rfl 0 (by decide) (by decide +kernel) rfl rfl (by decide +kernel) (rfl) rfl (Nat.le_of_ble_eq_true rfl) dX4_begin_71 (fun h129 e130 f131 => ?_)
  have e130 : h129 mt = some (.inr (6, [.int 0, .int jams, .int clashes, .int fewest, .int most, .ref cm, .ref (mt + 1), .ref (mt + 2), .ref (mt + 3), .ref (mt + 4), .ref (mt + 5), .ref (mt + 6), .ref (mt + 7), .int nr, .int ov0])) := e130
  have x132 : h129 (mt + 1) = some (.inl (z 2, 3000, .inr (.inl (pl)))) := (f131 _ (by omega)).trans x120
  have x133 : h129 (mt + 2) = some (.inl (z 1, 3000, .inl (mv))) := (f131 _ (by omega)).trans x121
  have x134 : h129 (mt + 3) = some (.inl (z 1, 8192, .inl (fl6))) := (f131 _ (by omega)).trans x122
  have x135 : h129 (mt + 4) = some (.inl (z 0, 7200, .inl (fl23))) := (f131 _ (by omega)).trans x123
  have x136 : h129 (mt + 5) = some (.inl (z 5, 2, .inr (.inr (.inr (.inr (va_up (va_up tk (0 : Int32).toNatClampNeg (some aF)) (1 : Int32).toNatClampNeg (some aG))))))) := (f131 _ (by omega)).trans x124
  have x137 : h129 (mt + 6) = some (.inl (z 1, 2, .inl (upd (upd ats (0 : Int32).toNatClampNeg (nI (sN TF 0))) (1 : Int32).toNatClampNeg (nI (sN TG 0))))) := (f131 _ (by omega)).trans x125
  have x138 : h129 (mt + 7) = some (.inl (z 1, 2, .inl (upd (upd lns (0 : Int32).toNatClampNeg 0) (1 : Int32).toNatClampNeg 0))) := (f131 _ (by omega)).trans x126
  have hp_139 : PrC z h129 aF _ TF := hp_127.kept (fun q _ _ => f131 q (by omega))
  have hp_140 : PrC z h129 aG _ TG := hp_128.kept (fun q _ _ => f131 q (by omega))
  refine ax_aload_n hC 0 dX4_begin_74 rfl rfl ?_
  refine ax_iconst (v := 0) hC dX4_begin_75 (by decide) ?_
  refine ax_putf (v := .int 0) (ty := .int) hC tyX4 e130 iX4 tyX4_ok nmX4 rfl 1 (by decide) (by decide +kernel) rfl rfl (by decide +kernel) (rfl) rfl (Nat.le_of_ble_eq_true rfl) dX4_begin_76 (fun h141 e142 f143 => ?_)
  have e142 : h141 mt = some (.inr (6, [.int 0, .int 0, .int clashes, .int fewest, .int most, .ref cm, .ref (mt + 1), .ref (mt + 2), .ref (mt + 3), .ref (mt + 4), .ref (mt + 5), .ref (mt + 6), .ref (mt + 7), .int nr, .int ov0])) := e142
  have x144 : h141 (mt + 1) = some (.inl (z 2, 3000, .inr (.inl (pl)))) := (f143 _ (by omega)).trans x132
  have x145 : h141 (mt + 2) = some (.inl (z 1, 3000, .inl (mv))) := (f143 _ (by omega)).trans x133
  have x146 : h141 (mt + 3) = some (.inl (z 1, 8192, .inl (fl6))) := (f143 _ (by omega)).trans x134
  have x147 : h141 (mt + 4) = some (.inl (z 0, 7200, .inl (fl23))) := (f143 _ (by omega)).trans x135
  have x148 : h141 (mt + 5) = some (.inl (z 5, 2, .inr (.inr (.inr (.inr (va_up (va_up tk (0 : Int32).toNatClampNeg (some aF)) (1 : Int32).toNatClampNeg (some aG))))))) := (f143 _ (by omega)).trans x136
  have x149 : h141 (mt + 6) = some (.inl (z 1, 2, .inl (upd (upd ats (0 : Int32).toNatClampNeg (nI (sN TF 0))) (1 : Int32).toNatClampNeg (nI (sN TG 0))))) := (f143 _ (by omega)).trans x137
  have x150 : h141 (mt + 7) = some (.inl (z 1, 2, .inl (upd (upd lns (0 : Int32).toNatClampNeg 0) (1 : Int32).toNatClampNeg 0))) := (f143 _ (by omega)).trans x138
  have hp_151 : PrC z h141 aF _ TF := hp_139.kept (fun q _ _ => f143 q (by omega))
  have hp_152 : PrC z h141 aG _ TG := hp_140.kept (fun q _ _ => f143 q (by omega))
  refine ax_aload_n hC 0 dX4_begin_79 rfl rfl ?_
  refine ax_iconst (v := 0) hC dX4_begin_80 (by decide) ?_
  refine ax_putf (v := .int 0) (ty := .int) hC tyX4 e142 iX4 tyX4_ok nmX4 rfl 2 (by decide) (by decide +kernel) rfl rfl (by decide +kernel) (rfl) rfl (Nat.le_of_ble_eq_true rfl) dX4_begin_81 (fun h153 e154 f155 => ?_)
  have e154 : h153 mt = some (.inr (6, [.int 0, .int 0, .int 0, .int fewest, .int most, .ref cm, .ref (mt + 1), .ref (mt + 2), .ref (mt + 3), .ref (mt + 4), .ref (mt + 5), .ref (mt + 6), .ref (mt + 7), .int nr, .int ov0])) := e154
  have x156 : h153 (mt + 1) = some (.inl (z 2, 3000, .inr (.inl (pl)))) := (f155 _ (by omega)).trans x144
  have x157 : h153 (mt + 2) = some (.inl (z 1, 3000, .inl (mv))) := (f155 _ (by omega)).trans x145
  have x158 : h153 (mt + 3) = some (.inl (z 1, 8192, .inl (fl6))) := (f155 _ (by omega)).trans x146
  have x159 : h153 (mt + 4) = some (.inl (z 0, 7200, .inl (fl23))) := (f155 _ (by omega)).trans x147
  have x160 : h153 (mt + 5) = some (.inl (z 5, 2, .inr (.inr (.inr (.inr (va_up (va_up tk (0 : Int32).toNatClampNeg (some aF)) (1 : Int32).toNatClampNeg (some aG))))))) := (f155 _ (by omega)).trans x148
  have x161 : h153 (mt + 6) = some (.inl (z 1, 2, .inl (upd (upd ats (0 : Int32).toNatClampNeg (nI (sN TF 0))) (1 : Int32).toNatClampNeg (nI (sN TG 0))))) := (f155 _ (by omega)).trans x149
  have x162 : h153 (mt + 7) = some (.inl (z 1, 2, .inl (upd (upd lns (0 : Int32).toNatClampNeg 0) (1 : Int32).toNatClampNeg 0))) := (f155 _ (by omega)).trans x150
  have hp_163 : PrC z h153 aF _ TF := hp_151.kept (fun q _ _ => f155 q (by omega))
  have hp_164 : PrC z h153 aG _ TG := hp_152.kept (fun q _ _ => f155 q (by omega))
  refine ax_aload_n hC 0 dX4_begin_84 rfl rfl ?_
  refine ax_bipush (v := (-2)) hC dX4_begin_85 (by decide) ?_
  refine ax_putf (v := .int (-2)) (ty := .int) hC tyX4 e154 iX4 tyX4_ok nmX4 rfl 3 (by decide) (by decide +kernel) rfl rfl (by decide +kernel) (rfl) rfl (Nat.le_of_ble_eq_true rfl) dX4_begin_87 (fun h165 e166 f167 => ?_)
  have e166 : h165 mt = some (.inr (6, [.int 0, .int 0, .int 0, .int (-2), .int most, .ref cm, .ref (mt + 1), .ref (mt + 2), .ref (mt + 3), .ref (mt + 4), .ref (mt + 5), .ref (mt + 6), .ref (mt + 7), .int nr, .int ov0])) := e166
  have x168 : h165 (mt + 1) = some (.inl (z 2, 3000, .inr (.inl (pl)))) := (f167 _ (by omega)).trans x156
  have x169 : h165 (mt + 2) = some (.inl (z 1, 3000, .inl (mv))) := (f167 _ (by omega)).trans x157
  have x170 : h165 (mt + 3) = some (.inl (z 1, 8192, .inl (fl6))) := (f167 _ (by omega)).trans x158
  have x171 : h165 (mt + 4) = some (.inl (z 0, 7200, .inl (fl23))) := (f167 _ (by omega)).trans x159
  have x172 : h165 (mt + 5) = some (.inl (z 5, 2, .inr (.inr (.inr (.inr (va_up (va_up tk (0 : Int32).toNatClampNeg (some aF)) (1 : Int32).toNatClampNeg (some aG))))))) := (f167 _ (by omega)).trans x160
  have x173 : h165 (mt + 6) = some (.inl (z 1, 2, .inl (upd (upd ats (0 : Int32).toNatClampNeg (nI (sN TF 0))) (1 : Int32).toNatClampNeg (nI (sN TG 0))))) := (f167 _ (by omega)).trans x161
  have x174 : h165 (mt + 7) = some (.inl (z 1, 2, .inl (upd (upd lns (0 : Int32).toNatClampNeg 0) (1 : Int32).toNatClampNeg 0))) := (f167 _ (by omega)).trans x162
  have hp_175 : PrC z h165 aF _ TF := hp_163.kept (fun q _ _ => f167 q (by omega))
  have hp_176 : PrC z h165 aG _ TG := hp_164.kept (fun q _ _ => f167 q (by omega))
  refine ax_aload_n hC 0 dX4_begin_90 rfl rfl ?_
  refine ax_iconst (v := 0) hC dX4_begin_91 (by decide) ?_
  refine ax_putf (v := .int 0) (ty := .int) hC tyX4 e166 iX4 tyX4_ok nmX4 rfl 4 (by decide) (by decide +kernel) rfl rfl (by decide +kernel) (rfl) rfl (Nat.le_of_ble_eq_true rfl) dX4_begin_92 (fun h177 e178 f179 => ?_)
  have e178 : h177 mt = some (.inr (6, [.int 0, .int 0, .int 0, .int (-2), .int 0, .ref cm, .ref (mt + 1), .ref (mt + 2), .ref (mt + 3), .ref (mt + 4), .ref (mt + 5), .ref (mt + 6), .ref (mt + 7), .int nr, .int ov0])) := e178
  have x180 : h177 (mt + 1) = some (.inl (z 2, 3000, .inr (.inl (pl)))) := (f179 _ (by omega)).trans x168
  have x181 : h177 (mt + 2) = some (.inl (z 1, 3000, .inl (mv))) := (f179 _ (by omega)).trans x169
  have x182 : h177 (mt + 3) = some (.inl (z 1, 8192, .inl (fl6))) := (f179 _ (by omega)).trans x170
  have x183 : h177 (mt + 4) = some (.inl (z 0, 7200, .inl (fl23))) := (f179 _ (by omega)).trans x171
  have x184 : h177 (mt + 5) = some (.inl (z 5, 2, .inr (.inr (.inr (.inr (va_up (va_up tk (0 : Int32).toNatClampNeg (some aF)) (1 : Int32).toNatClampNeg (some aG))))))) := (f179 _ (by omega)).trans x172
  have x185 : h177 (mt + 6) = some (.inl (z 1, 2, .inl (upd (upd ats (0 : Int32).toNatClampNeg (nI (sN TF 0))) (1 : Int32).toNatClampNeg (nI (sN TG 0))))) := (f179 _ (by omega)).trans x173
  have x186 : h177 (mt + 7) = some (.inl (z 1, 2, .inl (upd (upd lns (0 : Int32).toNatClampNeg 0) (1 : Int32).toNatClampNeg 0))) := (f179 _ (by omega)).trans x174
  have hp_187 : PrC z h177 aF _ TF := hp_175.kept (fun q _ _ => f179 q (by omega))
  have hp_188 : PrC z h177 aG _ TG := hp_176.kept (fun q _ _ => f179 q (by omega))
  refine ax_aload_n hC 0 dX4_begin_95 rfl rfl ?_
  refine ax_iconst (v := 0) hC dX4_begin_96 (by decide) ?_
  refine ax_putf (v := .int 0) (ty := .boolean) hC tyX4 e178 iX4 tyX4_ok nmX4 rfl 14 (by decide) (by decide +kernel) rfl rfl (by decide +kernel) (rfl) rfl (Nat.le_of_ble_eq_true rfl) dX4_begin_97 (fun h189 e190 f191 => ?_)
  have e190 : h189 mt = some (.inr (6, [.int 0, .int 0, .int 0, .int (-2), .int 0, .ref cm, .ref (mt + 1), .ref (mt + 2), .ref (mt + 3), .ref (mt + 4), .ref (mt + 5), .ref (mt + 6), .ref (mt + 7), .int nr, .int 0])) := e190
  have x192 : h189 (mt + 1) = some (.inl (z 2, 3000, .inr (.inl (pl)))) := (f191 _ (by omega)).trans x180
  have x193 : h189 (mt + 2) = some (.inl (z 1, 3000, .inl (mv))) := (f191 _ (by omega)).trans x181
  have x194 : h189 (mt + 3) = some (.inl (z 1, 8192, .inl (fl6))) := (f191 _ (by omega)).trans x182
  have x195 : h189 (mt + 4) = some (.inl (z 0, 7200, .inl (fl23))) := (f191 _ (by omega)).trans x183
  have x196 : h189 (mt + 5) = some (.inl (z 5, 2, .inr (.inr (.inr (.inr (va_up (va_up tk (0 : Int32).toNatClampNeg (some aF)) (1 : Int32).toNatClampNeg (some aG))))))) := (f191 _ (by omega)).trans x184
  have x197 : h189 (mt + 6) = some (.inl (z 1, 2, .inl (upd (upd ats (0 : Int32).toNatClampNeg (nI (sN TF 0))) (1 : Int32).toNatClampNeg (nI (sN TG 0))))) := (f191 _ (by omega)).trans x185
  have x198 : h189 (mt + 7) = some (.inl (z 1, 2, .inl (upd (upd lns (0 : Int32).toNatClampNeg 0) (1 : Int32).toNatClampNeg 0))) := (f191 _ (by omega)).trans x186
  have hp_199 : PrC z h189 aF _ TF := hp_187.kept (fun q _ _ => f191 q (by omega))
  have hp_200 : PrC z h189 aG _ TG := hp_188.kept (fun q _ _ => f191 q (by omega))
  refine ax_vret hC hr hlocks dX4_begin_100 ?_
  exact ⟨rfl, fun q hq => ((f191 q (by omega)).trans ((f179 q (by omega)).trans ((f167 q (by omega)).trans ((f155 q (by omega)).trans ((f143 q (by omega)).trans ((f131 q (by omega)).trans ((f119 q (by omega)).trans ((f107 q (by omega)).trans ((f94 q (by omega)).trans ((f81 q (by omega)).trans ((f66 q (by omega)).trans ((f51 q (by omega)).trans ((f38 q (by omega)).trans ((fr22 q (by omega)).trans (fr5 q (by omega)))))))))))))))), ⟨0, _, _, _, _, _, _, _, _, _, e190, x192, x193, x194, x195, x196, x197, x198, by omega, Or.inl rfl, vu0 _ _ _, vu1 _ _ _, (ua10 _ _).trans (ua00 _ _), ua11 _ _, (ua10 _ _).trans (ua00 _ _), ua11 _ _, fun i hi9 => absurd hi9 (by omega), fun i hi9 => Or.inl (zf25 i hi9)⟩⟩

abbrev rmX4_visit : Room := { frames := 4, cells := 0, slots := 0, locals := 117 }
set_option maxRecDepth 100000 in
set_option maxHeartbeats 4000000 in
theorem c_X4_visit (l : Launch) (D : va_G) (z : Nat → ClassId) (B : Heap) (lo hi : Nat) (h : Nat → Option va_E) (mt cm aF aG : Nat) (nr : Int32) (TF TG : PT) (W : Nat → Nat → Prop) (a b l0 l1 : Nat) (ndF ndG : Int32) (steps : Int32) (hX : MtX z h mt cm aF aG nr TF TG W a b l0 l1) (hF : PrC z h aF ndF TF) (hG : PrC z h aG ndG TG) (hwF : wfP TF) (hwG : wfP TG) (hM : MeetW TF TG W) (hok : PlaceOK TF TG W a b l0 l1) (hmF : mt + 8 ≤ aF) (hmG : mt + 8 ≤ aG) (hS : CmpS z h cm) (hcm : cm + 3 ≤ mt) (hn1 : nr = 1 ∨ nr = 2) : Met l yX4_visit wsX4_visit rmX4_visit (KP D vwCl B lo hi h (ty6 z) [.ref mt, .int steps]) (KQv D vwCl B lo (ty6 z) (fun hi' h' => hi' = hi ∧ (∀ q, (q < cm ∨ (cm + 3 ≤ q ∧ q < mt) ∨ mt + 8 ≤ q) → h' q = h q) ∧ CmpS z h' cm ∧ MtX z h' mt cm aF aG nr TF TG W a b l0 l1)) 0 0 (fun q => lo ≤ q) := by
  obtain ⟨fo, most, over, pl, mv, sl, ft, tk, ats, lns, q0, q1, q2, q3, q4, q5, q6, q7, hfo, hov, hk0, hk1, hta, htb, hz0, hz1, hpl, hft⟩ := id hX
  have hwF1 := hwF.1
  have hwG1 := hwG.1
  obtain ⟨ha, hb, hl0, hl1, hm0, hm1⟩ := hok.bnd hwF hwG hM
  refine ax_met (by decide) rfl (Nat.le_of_ble_eq_true rfl) (L0 := [(0, .ref mt), (1, .int steps)]) rfl ?_
  intro p e s m args below meth c hC hr hlocks hnm hargs
  have iX4 : ∀ w ∈ u_ws RX4 TX4 15, w ∈ wsX4_visit := by decide +kernel
  refine ax_aload_n hC 0 dX4_visit_0 rfl rfl ?_
  refine ax_aload_n hC 0 dX4_visit_1 rfl rfl ?_
  refine ax_getf (v := .int most) hC q0 iX4 rfl 4 (by decide) (by decide +kernel) rfl rfl dX4_visit_2 ?_
  refine ax_aload_n hC 0 dX4_visit_5 rfl rfl ?_
  refine ax_getf (v := .ref (mt + 7)) hC q0 iX4 rfl 12 (by decide) (by decide +kernel) rfl rfl dX4_visit_6 ?_
  refine ax_iconst (v := 0) hC dX4_visit_9 (by decide) ?_
  have b1 : vp_in 0 2 := vp_in_iff.mpr (by decide)
  refine ax_iald hC q7 1 rfl b1 dX4_visit_10 ?_
  refine ax_eqi (y := nI l0) (hz0) ?_
  refine ax_callSp (st := [.int most, .ref mt]) hC [.int (nI l0)] (c_X4_lying l D z B lo _ h (nI l0)) (va_cwS 1 hC.1.2.2.2.2 gX4_visit_X4_lying rfl rfl rfl (by decide +kernel) ⟨Nat.le_of_ble_eq_true rfl, Nat.le_of_ble_eq_true rfl⟩) rfl rfl (Nat.le_of_ble_eq_true rfl) dX4_visit_11 ⟨Nat.le_of_ble_eq_true rfl, Nat.le_of_ble_eq_true rfl⟩ (fun r2 er3 => ?_)
  subst er3
  refine ax_aload_n hC 0 dX4_visit_14 rfl rfl ?_
  refine ax_getf (v := .ref (mt + 7)) hC q0 iX4 rfl 12 (by decide) (by decide +kernel) rfl rfl dX4_visit_15 ?_
  refine ax_iconst (v := 1) hC dX4_visit_18 (by decide) ?_
  have b4 : vp_in 1 2 := vp_in_iff.mpr (by decide)
  refine ax_iald hC q7 1 rfl b4 dX4_visit_19 ?_
  refine ax_eqi (y := nI l1) (hz1) ?_
  refine ax_callSp (st := [.int (lyf (nI l0)), .int most, .ref mt]) hC [.int (nI l1)] (c_X4_lying l D z B lo _ h (nI l1)) (va_cwS 1 hC.1.2.2.2.2 gX4_visit_X4_lying rfl rfl rfl (by decide +kernel) ⟨Nat.le_of_ble_eq_true rfl, Nat.le_of_ble_eq_true rfl⟩) rfl rfl (Nat.le_of_ble_eq_true rfl) dX4_visit_20 ⟨Nat.le_of_ble_eq_true rfl, Nat.le_of_ble_eq_true rfl⟩ (fun r5 er6 => ?_)
  subst er6
  refine ax_mmax hC (by decide +kernel) (by decide +kernel) (by decide +kernel) (by decide +kernel) (Nat.le_of_ble_eq_true rfl) (Nat.le_of_ble_eq_true rfl) (Nat.le_of_ble_eq_true rfl) (Nat.le_of_ble_eq_true rfl) dX4_visit_23 ?_
  refine ax_mmax hC (by decide +kernel) (by decide +kernel) (by decide +kernel) (by decide +kernel) (Nat.le_of_ble_eq_true rfl) (Nat.le_of_ble_eq_true rfl) (Nat.le_of_ble_eq_true rfl) (Nat.le_of_ble_eq_true rfl) dX4_visit_26 ?_
  refine ax_putf (v := .int (if most < (if (lyf (nI l0)) < (lyf (nI l1)) then (lyf (nI l1)) else (lyf (nI l0))) then (if (lyf (nI l0)) < (lyf (nI l1)) then (lyf (nI l1)) else (lyf (nI l0))) else most)) (ty := .int) hC tyX4 q0 iX4 tyX4_ok nmX4 rfl 4 (by decide) (by decide +kernel) rfl rfl (by decide +kernel) (rfl) rfl (Nat.le_of_ble_eq_true rfl) dX4_visit_29 (fun h7 e8 f9 => ?_)
  have e8 : h7 mt = some (.inr (6, [.int (nI fo), .int 0, .int 0, .int (-2), .int (if most < (if (lyf (nI l0)) < (lyf (nI l1)) then (lyf (nI l1)) else (lyf (nI l0))) then (if (lyf (nI l0)) < (lyf (nI l1)) then (lyf (nI l1)) else (lyf (nI l0))) else most), .ref cm, .ref (mt + 1), .ref (mt + 2), .ref (mt + 3), .ref (mt + 4), .ref (mt + 5), .ref (mt + 6), .ref (mt + 7), .int nr, .int over])) := e8
  have x10 : h7 (mt + 1) = some (.inl (z 2, 3000, .inr (.inl (pl)))) := (f9 _ (by omega)).trans q1
  have x11 : h7 (mt + 2) = some (.inl (z 1, 3000, .inl (mv))) := (f9 _ (by omega)).trans q2
  have x12 : h7 (mt + 3) = some (.inl (z 1, 8192, .inl (sl))) := (f9 _ (by omega)).trans q3
  have x13 : h7 (mt + 4) = some (.inl (z 0, 7200, .inl (ft))) := (f9 _ (by omega)).trans q4
  have x14 : h7 (mt + 5) = some (.inl (z 5, 2, .inr (.inr (.inr (.inr (tk)))))) := (f9 _ (by omega)).trans q5
  have x15 : h7 (mt + 6) = some (.inl (z 1, 2, .inl (ats))) := (f9 _ (by omega)).trans q6
  have x16 : h7 (mt + 7) = some (.inl (z 1, 2, .inl (lns))) := (f9 _ (by omega)).trans q7
  have hp_17 : PrC z h7 aF _ TF := hF.kept (fun q _ _ => f9 q (by omega))
  have hp_18 : PrC z h7 aG _ TG := hG.kept (fun q _ _ => f9 q (by omega))
  refine ax_aload_n hC 0 dX4_visit_32 rfl rfl ?_
  refine ax_iconst (v := 0) hC dX4_visit_33 (by decide) ?_
  have hX19 : MtX z h7 mt cm aF aG nr TF TG W a b l0 l1 := ⟨_, _, _, _, _, _, _, _, _, _, e8, x10, x11, x12, x13, x14, x15, x16, hfo, hov, hk0, hk1, hta, htb, hz0, hz1, hpl, hft⟩
  have hS20 := CmpS.kept (h' := h7) hS (fun q _ _ => f9 q (by omega))
  refine ax_callVi (st := []) hC [.int 0] e8 rfl (c_X4_taking_0 l D z B lo _ h7 mt cm aF aG nr TF TG W a b l0 l1 _ _ hX19 hp_17 hp_18 hwF hwG hM hok hmF hmG hS20 hcm) (cwV 1 hC.1.2.2.2.2 gX4_visit_X4_taking rfl rfl rfl (by decide +kernel) ⟨Nat.le_of_ble_eq_true rfl, Nat.le_of_ble_eq_true rfl⟩) rfl rfl (Nat.le_of_ble_eq_true rfl) dX4_visit_34 ⟨Nat.le_of_ble_eq_true rfl, Nat.le_of_ble_eq_true rfl⟩ (fun r21 hi22 h23 hp24 => ?_)
  obtain ⟨ei25, fr26, hS27, hX28, hr29⟩ := hp24
  replace ei25 := ei25.symm
  subst ei25
  have hp_30 : PrC z h23 aF _ TF := hp_17.kept (fun q _ _ => fr26 q (by omega))
  have hp_31 : PrC z h23 aG _ TG := hp_18.kept (fun q _ _ => fr26 q (by omega))
  obtain ⟨fo_32, most_32, over_32, pl_32, mv_32, sl_32, ft_32, tk_32, ats_32, lns_32, q0_32, q1_32, q2_32, q3_32, q4_32, q5_32, q6_32, q7_32, hfo_32, hov_32, hk0_32, hk1_32, hta_32, htb_32, hz0_32, hz1_32, hpl_32, hft_32⟩ := id hX28
  by_cases hc1 : l1 = 0
  · rw [if_pos hc1] at hr29
    subst hr29
    refine ax_istore_n hC [(2, .int 0), (0, .ref mt), (1, .int steps)] dX4_visit_37 rfl (by decide) rfl ?_
    refine ax_aload_n hC 1 dX4_visit_38 rfl rfl ?_
    refine ax_iconst (v := 1) hC dX4_visit_39 (by decide) ?_
    have hX33 : MtX z h23 mt cm aF aG nr TF TG W a b l0 l1 := ⟨_, _, _, _, _, _, _, _, _, _, q0_32, q1_32, q2_32, q3_32, q4_32, q5_32, q6_32, q7_32, hfo_32, hov_32, hk0_32, hk1_32, hta_32, htb_32, hz0_32, hz1_32, hpl_32, hft_32⟩
    refine ax_callVi (st := []) hC [.int 1] q0_32 rfl (c_X4_taking_1 l D z B lo _ h23 mt cm aF aG nr TF TG W a b l0 l1 _ _ hX33 hp_30 hp_31 hwF hwG hM hok hmF hmG hS27 hcm) (cwV 1 hC.1.2.2.2.2 gX4_visit_X4_taking rfl rfl rfl (by decide +kernel) ⟨Nat.le_of_ble_eq_true rfl, Nat.le_of_ble_eq_true rfl⟩) rfl rfl (Nat.le_of_ble_eq_true rfl) dX4_visit_40 ⟨Nat.le_of_ble_eq_true rfl, Nat.le_of_ble_eq_true rfl⟩ (fun r34 hi35 h36 hp37 => ?_)
    obtain ⟨ei38, fr39, hS40, hX41, hr42⟩ := hp37
    replace ei38 := ei38.symm
    subst ei38
    have hp_43 : PrC z h36 aF _ TF := hp_30.kept (fun q _ _ => fr39 q (by omega))
    have hp_44 : PrC z h36 aG _ TG := hp_31.kept (fun q _ _ => fr39 q (by omega))
    obtain ⟨fo_45, most_45, over_45, pl_45, mv_45, sl_45, ft_45, tk_45, ats_45, lns_45, q0_45, q1_45, q2_45, q3_45, q4_45, q5_45, q6_45, q7_45, hfo_45, hov_45, hk0_45, hk1_45, hta_45, htb_45, hz0_45, hz1_45, hpl_45, hft_45⟩ := id hX41
    by_cases hc0 : l0 = 0
    · rw [if_pos hc0] at hr42
      subst hr42
      refine ax_istore_n hC [(3, .int 0), (2, .int 0), (0, .ref mt), (1, .int steps)] dX4_visit_43 rfl (by decide) rfl ?_
      refine ax_iload_n hC 1 dX4_visit_44 rfl rfl ?_
      refine ax_iconst (v := 2) hC dX4_visit_45 (by decide) ?_
      refine ax_icmp_eq (tgt := 54) hC dX4_visit_46 (by decide) (fun c46 => ?_) (fun c46 => ?_)
      · exact absurd c46 (by decide)
      · refine ax_iload_n hC 0 dX4_visit_49 rfl rfl ?_
        refine ax_iconst (v := 2) hC dX4_visit_50 (by decide) ?_
        refine ax_icmp_ne (tgt := 58) hC dX4_visit_51 (by decide) (fun c47 => ?_) (fun c47 => ?_)
        · refine ax_iconst (v := 0) hC dX4_visit_58 (by decide) ?_
          refine ax_istore hC [(4, .int 0), (3, .int 0), (2, .int 0), (0, .ref mt), (1, .int steps)] dX4_visit_59 (by decide) rfl ?_
          refine ax_iload hC 0 dX4_visit_61 rfl ?_
          refine ax_if_eq (tgt := 79) hC dX4_visit_63 (by decide) (fun c48 => ?_) (fun c48 => ?_)
          · refine ax_aload_n hC 3 dX4_visit_79 rfl rfl ?_
            refine ax_iconst (v := 0) hC dX4_visit_80 (by decide) ?_
            refine ax_iload_n hC 2 dX4_visit_81 rfl rfl ?_
            refine ax_iload_n hC 4 dX4_visit_82 rfl rfl ?_
            have hX49 : MtX z h36 mt cm aF aG nr TF TG W a b l0 l1 := ⟨_, _, _, _, _, _, _, _, _, _, q0_45, q1_45, q2_45, q3_45, q4_45, q5_45, q6_45, q7_45, hfo_45, hov_45, hk0_45, hk1_45, hta_45, htb_45, hz0_45, hz1_45, hpl_45, hft_45⟩
            refine ax_callVi (st := []) hC [.int 0, .int 0, .int steps] q0_45 rfl (c_X4_moveOf_0 l D z B lo _ h36 mt cm aF aG nr TF TG W a b l0 l1 _ _ 0 steps hX49 hp_43 hp_44 hwF hwG hM hok hmF hmG hn1 (if_pos hc1).symm) (cwV 3 hC.1.2.2.2.2 gX4_visit_X4_moveOf rfl rfl rfl (by decide +kernel) ⟨Nat.le_of_ble_eq_true rfl, Nat.le_of_ble_eq_true rfl⟩) rfl rfl (Nat.le_of_ble_eq_true rfl) dX4_visit_83 ⟨Nat.le_of_ble_eq_true rfl, Nat.le_of_ble_eq_true rfl⟩ (fun r50 hi51 h52 hp53 => ?_)
            obtain ⟨ei54, fr55, hX56, o57⟩ := hp53
            replace ei54 := ei54.symm
            subst ei54
            have hp_59 : PrC z h52 aF _ TF := hp_43.kept (fun q _ _ => fr55 q (by omega))
            have hp_60 : PrC z h52 aG _ TG := hp_44.kept (fun q _ _ => fr55 q (by omega))
            obtain ⟨fo_61, most_61, over_61, pl_61, mv_61, sl_61, ft_61, tk_61, ats_61, lns_61, q0_61, q1_61, q2_61, q3_61, q4_61, q5_61, q6_61, q7_61, hfo_61, hov_61, hk0_61, hk1_61, hta_61, htb_61, hz0_61, hz1_61, hpl_61, hft_61⟩ := id hX56
            have hS58 := CmpS.kept (h' := h52) hS40 (fun q _ _ => fr55 q (by omega))
            rcases o57 with rr0 | ⟨rr0, g0, gk0⟩
            · subst rr0
              refine ax_aload_n hC 3 dX4_visit_86 rfl rfl ?_
              refine ax_iconst (v := 1) hC dX4_visit_87 (by decide) ?_
              refine ax_iload_n hC 1 dX4_visit_88 rfl rfl ?_
              refine ax_iload_n hC 4 dX4_visit_89 rfl rfl ?_
              have hX62 : MtX z h52 mt cm aF aG nr TF TG W a b l0 l1 := ⟨_, _, _, _, _, _, _, _, _, _, q0_61, q1_61, q2_61, q3_61, q4_61, q5_61, q6_61, q7_61, hfo_61, hov_61, hk0_61, hk1_61, hta_61, htb_61, hz0_61, hz1_61, hpl_61, hft_61⟩
              refine ax_callVi (st := [.int 1]) hC [.int 1, .int 0, .int steps] q0_61 rfl (c_X4_moveOf_1 l D z B lo _ h52 mt cm aF aG nr TF TG W a b l0 l1 _ _ 0 steps hX62 hp_59 hp_60 hwF hwG hM hok hmF hmG hn1 (if_pos hc0).symm) (cwV 3 hC.1.2.2.2.2 gX4_visit_X4_moveOf rfl rfl rfl (by decide +kernel) ⟨Nat.le_of_ble_eq_true rfl, Nat.le_of_ble_eq_true rfl⟩) rfl rfl (Nat.le_of_ble_eq_true rfl) dX4_visit_90 ⟨Nat.le_of_ble_eq_true rfl, Nat.le_of_ble_eq_true rfl⟩ (fun r63 hi64 h65 hp66 => ?_)
              obtain ⟨ei67, fr68, hX69, o70⟩ := hp66
              replace ei67 := ei67.symm
              subst ei67
              have hp_72 : PrC z h65 aF _ TF := hp_59.kept (fun q _ _ => fr68 q (by omega))
              have hp_73 : PrC z h65 aG _ TG := hp_60.kept (fun q _ _ => fr68 q (by omega))
              obtain ⟨fo_74, most_74, over_74, pl_74, mv_74, sl_74, ft_74, tk_74, ats_74, lns_74, q0_74, q1_74, q2_74, q3_74, q4_74, q5_74, q6_74, q7_74, hfo_74, hov_74, hk0_74, hk1_74, hta_74, htb_74, hz0_74, hz1_74, hpl_74, hft_74⟩ := id hX69
              have hS71 := CmpS.kept (h' := h65) hS58 (fun q _ _ => fr68 q (by omega))
              rcases o70 with rr1 | ⟨rr1, g1, gk1⟩
              · subst rr1
                refine ax_ior hC dX4_visit_93 ?_
                refine ax_eqi (y := 1) (by decide) ?_
                refine ax_if_eq (tgt := 98) hC dX4_visit_94 (by decide) (fun c75 => ?_) (fun c75 => ?_)
                · exact absurd c75 (by decide)
                · refine ax_vret hC hr hlocks dX4_visit_97 ?_
                  exact ⟨rfl, fun q hq => ((fr68 q (by omega)).trans ((fr55 q (by omega)).trans ((fr39 q (by omega)).trans ((fr26 q (by omega)).trans (f9 q (by omega)))))), hS71, ⟨_, _, _, _, _, _, _, _, _, _, q0_74, q1_74, q2_74, q3_74, q4_74, q5_74, q6_74, q7_74, hfo_74, hov_74, hk0_74, hk1_74, hta_74, htb_74, hz0_74, hz1_74, hpl_74, hft_74⟩⟩
              · subst rr1
                refine ax_ior hC dX4_visit_93 ?_
                refine ax_eqi (y := 1) (by decide) ?_
                refine ax_if_eq (tgt := 98) hC dX4_visit_94 (by decide) (fun c76 => ?_) (fun c76 => ?_)
                · exact absurd c76 (by decide)
                · refine ax_vret hC hr hlocks dX4_visit_97 ?_
                  exact ⟨rfl, fun q hq => ((fr68 q (by omega)).trans ((fr55 q (by omega)).trans ((fr39 q (by omega)).trans ((fr26 q (by omega)).trans (f9 q (by omega)))))), hS71, ⟨_, _, _, _, _, _, _, _, _, _, q0_74, q1_74, q2_74, q3_74, q4_74, q5_74, q6_74, q7_74, hfo_74, hov_74, hk0_74, hk1_74, hta_74, htb_74, hz0_74, hz1_74, hpl_74, hft_74⟩⟩
            · subst rr0
              refine ax_aload_n hC 3 dX4_visit_86 rfl rfl ?_
              refine ax_iconst (v := 1) hC dX4_visit_87 (by decide) ?_
              refine ax_iload_n hC 1 dX4_visit_88 rfl rfl ?_
              refine ax_iload_n hC 4 dX4_visit_89 rfl rfl ?_
              have hX77 : MtX z h52 mt cm aF aG nr TF TG W a b l0 l1 := ⟨_, _, _, _, _, _, _, _, _, _, q0_61, q1_61, q2_61, q3_61, q4_61, q5_61, q6_61, q7_61, hfo_61, hov_61, hk0_61, hk1_61, hta_61, htb_61, hz0_61, hz1_61, hpl_61, hft_61⟩
              refine ax_callVi (st := [.int 0]) hC [.int 1, .int 0, .int steps] q0_61 rfl (c_X4_moveOf_1 l D z B lo _ h52 mt cm aF aG nr TF TG W a b l0 l1 _ _ 0 steps hX77 hp_59 hp_60 hwF hwG hM hok hmF hmG hn1 (if_pos hc0).symm) (cwV 3 hC.1.2.2.2.2 gX4_visit_X4_moveOf rfl rfl rfl (by decide +kernel) ⟨Nat.le_of_ble_eq_true rfl, Nat.le_of_ble_eq_true rfl⟩) rfl rfl (Nat.le_of_ble_eq_true rfl) dX4_visit_90 ⟨Nat.le_of_ble_eq_true rfl, Nat.le_of_ble_eq_true rfl⟩ (fun r78 hi79 h80 hp81 => ?_)
              obtain ⟨ei82, fr83, hX84, o85⟩ := hp81
              replace ei82 := ei82.symm
              subst ei82
              have hp_87 : PrC z h80 aF _ TF := hp_59.kept (fun q _ _ => fr83 q (by omega))
              have hp_88 : PrC z h80 aG _ TG := hp_60.kept (fun q _ _ => fr83 q (by omega))
              obtain ⟨fo_89, most_89, over_89, pl_89, mv_89, sl_89, ft_89, tk_89, ats_89, lns_89, q0_89, q1_89, q2_89, q3_89, q4_89, q5_89, q6_89, q7_89, hfo_89, hov_89, hk0_89, hk1_89, hta_89, htb_89, hz0_89, hz1_89, hpl_89, hft_89⟩ := id hX84
              have hS86 := CmpS.kept (h' := h80) hS58 (fun q _ _ => fr83 q (by omega))
              rcases o85 with rr1 | ⟨rr1, g1, gk1⟩
              · subst rr1
                refine ax_ior hC dX4_visit_93 ?_
                refine ax_eqi (y := 1) (by decide) ?_
                refine ax_if_eq (tgt := 98) hC dX4_visit_94 (by decide) (fun c90 => ?_) (fun c90 => ?_)
                · exact absurd c90 (by decide)
                · refine ax_vret hC hr hlocks dX4_visit_97 ?_
                  exact ⟨rfl, fun q hq => ((fr83 q (by omega)).trans ((fr55 q (by omega)).trans ((fr39 q (by omega)).trans ((fr26 q (by omega)).trans (f9 q (by omega)))))), hS86, ⟨_, _, _, _, _, _, _, _, _, _, q0_89, q1_89, q2_89, q3_89, q4_89, q5_89, q6_89, q7_89, hfo_89, hov_89, hk0_89, hk1_89, hta_89, htb_89, hz0_89, hz1_89, hpl_89, hft_89⟩⟩
              · subst rr1
                refine ax_ior hC dX4_visit_93 ?_
                refine ax_eqi (y := 0) (by decide) ?_
                refine ax_if_eq (tgt := 98) hC dX4_visit_94 (by decide) (fun c91 => ?_) (fun c91 => ?_)
                · have hd := PlaceOK.dead hwF hwG hM (by have q9 := hok; rw [g0, g1] at q9; exact q9) (gk0 g1).1 (gk0 g1).2 (gk1 g0).1 (gk1 g0).2
                  refine ax_aload_n hC 3 dX4_visit_98 rfl rfl ?_
                  refine ax_iconst (v := 0) hC dX4_visit_99 (by decide) ?_
                  have hX92 : MtX z h80 mt cm aF aG nr TF TG W a b l0 l1 := ⟨_, _, _, _, _, _, _, _, _, _, q0_89, q1_89, q2_89, q3_89, q4_89, q5_89, q6_89, q7_89, hfo_89, hov_89, hk0_89, hk1_89, hta_89, htb_89, hz0_89, hz1_89, hpl_89, hft_89⟩
                  refine ax_callVp (st := []) hC [.int 0] q0_89 rfl (c_X4_isAtEnd_0 l D z B lo _ h80 mt cm aF aG nr TF TG W a b l0 l1 _ _ hX92 hp_87 hp_88 hwF hwG hM hok hmF hmG hd.1 g1) (cwV 1 hC.1.2.2.2.2 gX4_visit_X4_isAtEnd rfl rfl rfl (by decide +kernel) ⟨Nat.le_of_ble_eq_true rfl, Nat.le_of_ble_eq_true rfl⟩) rfl rfl (Nat.le_of_ble_eq_true rfl) dX4_visit_100 ⟨Nat.le_of_ble_eq_true rfl, Nat.le_of_ble_eq_true rfl⟩ (fun r93 er94 => ?_)
                  subst er94
                  refine ax_if_eq (tgt := 115) hC dX4_visit_103 (by decide) (fun c95 => ?_) (fun c95 => ?_)
                  · exact absurd c95 (by decide)
                  · refine ax_aload_n hC 3 dX4_visit_106 rfl rfl ?_
                    refine ax_iconst (v := 1) hC dX4_visit_107 (by decide) ?_
                    have hX96 : MtX z h80 mt cm aF aG nr TF TG W a b l0 l1 := ⟨_, _, _, _, _, _, _, _, _, _, q0_89, q1_89, q2_89, q3_89, q4_89, q5_89, q6_89, q7_89, hfo_89, hov_89, hk0_89, hk1_89, hta_89, htb_89, hz0_89, hz1_89, hpl_89, hft_89⟩
                    refine ax_callVp (st := []) hC [.int 1] q0_89 rfl (c_X4_isAtEnd_1 l D z B lo _ h80 mt cm aF aG nr TF TG W a b l0 l1 _ _ hX96 hp_87 hp_88 hwF hwG hM hok hmF hmG hd.2 g0) (cwV 1 hC.1.2.2.2.2 gX4_visit_X4_isAtEnd rfl rfl rfl (by decide +kernel) ⟨Nat.le_of_ble_eq_true rfl, Nat.le_of_ble_eq_true rfl⟩) rfl rfl (Nat.le_of_ble_eq_true rfl) dX4_visit_108 ⟨Nat.le_of_ble_eq_true rfl, Nat.le_of_ble_eq_true rfl⟩ (fun r97 er98 => ?_)
                    subst er98
                    refine ax_if_eq (tgt := 115) hC dX4_visit_111 (by decide) (fun c99 => ?_) (fun c99 => ?_)
                    · exact absurd c99 (by decide)
                    · refine ax_vret hC hr hlocks dX4_visit_114 ?_
                      exact ⟨rfl, fun q hq => ((fr83 q (by omega)).trans ((fr55 q (by omega)).trans ((fr39 q (by omega)).trans ((fr26 q (by omega)).trans (f9 q (by omega)))))), hS86, ⟨_, _, _, _, _, _, _, _, _, _, q0_89, q1_89, q2_89, q3_89, q4_89, q5_89, q6_89, q7_89, hfo_89, hov_89, hk0_89, hk1_89, hta_89, htb_89, hz0_89, hz1_89, hpl_89, hft_89⟩⟩
                · exact absurd c91 (by decide)
          · exact absurd c48 (by decide)
        · exact absurd c47 (by decide)
    · rw [if_neg hc0] at hr42
      subst hr42
      refine ax_istore_n hC [(3, .int 1), (2, .int 0), (0, .ref mt), (1, .int steps)] dX4_visit_43 rfl (by decide) rfl ?_
      refine ax_iload_n hC 1 dX4_visit_44 rfl rfl ?_
      refine ax_iconst (v := 2) hC dX4_visit_45 (by decide) ?_
      refine ax_icmp_eq (tgt := 54) hC dX4_visit_46 (by decide) (fun c100 => ?_) (fun c100 => ?_)
      · exact absurd c100 (by decide)
      · refine ax_iload_n hC 0 dX4_visit_49 rfl rfl ?_
        refine ax_iconst (v := 2) hC dX4_visit_50 (by decide) ?_
        refine ax_icmp_ne (tgt := 58) hC dX4_visit_51 (by decide) (fun c101 => ?_) (fun c101 => ?_)
        · refine ax_iconst (v := 0) hC dX4_visit_58 (by decide) ?_
          refine ax_istore hC [(4, .int 0), (3, .int 1), (2, .int 0), (0, .ref mt), (1, .int steps)] dX4_visit_59 (by decide) rfl ?_
          refine ax_iload hC 0 dX4_visit_61 rfl ?_
          refine ax_if_eq (tgt := 79) hC dX4_visit_63 (by decide) (fun c102 => ?_) (fun c102 => ?_)
          · refine ax_aload_n hC 3 dX4_visit_79 rfl rfl ?_
            refine ax_iconst (v := 0) hC dX4_visit_80 (by decide) ?_
            refine ax_iload_n hC 2 dX4_visit_81 rfl rfl ?_
            refine ax_iload_n hC 4 dX4_visit_82 rfl rfl ?_
            have hX103 : MtX z h36 mt cm aF aG nr TF TG W a b l0 l1 := ⟨_, _, _, _, _, _, _, _, _, _, q0_45, q1_45, q2_45, q3_45, q4_45, q5_45, q6_45, q7_45, hfo_45, hov_45, hk0_45, hk1_45, hta_45, htb_45, hz0_45, hz1_45, hpl_45, hft_45⟩
            refine ax_callVi (st := []) hC [.int 0, .int 0, .int steps] q0_45 rfl (c_X4_moveOf_0 l D z B lo _ h36 mt cm aF aG nr TF TG W a b l0 l1 _ _ 0 steps hX103 hp_43 hp_44 hwF hwG hM hok hmF hmG hn1 (if_pos hc1).symm) (cwV 3 hC.1.2.2.2.2 gX4_visit_X4_moveOf rfl rfl rfl (by decide +kernel) ⟨Nat.le_of_ble_eq_true rfl, Nat.le_of_ble_eq_true rfl⟩) rfl rfl (Nat.le_of_ble_eq_true rfl) dX4_visit_83 ⟨Nat.le_of_ble_eq_true rfl, Nat.le_of_ble_eq_true rfl⟩ (fun r104 hi105 h106 hp107 => ?_)
            obtain ⟨ei108, fr109, hX110, o111⟩ := hp107
            replace ei108 := ei108.symm
            subst ei108
            have hp_113 : PrC z h106 aF _ TF := hp_43.kept (fun q _ _ => fr109 q (by omega))
            have hp_114 : PrC z h106 aG _ TG := hp_44.kept (fun q _ _ => fr109 q (by omega))
            obtain ⟨fo_115, most_115, over_115, pl_115, mv_115, sl_115, ft_115, tk_115, ats_115, lns_115, q0_115, q1_115, q2_115, q3_115, q4_115, q5_115, q6_115, q7_115, hfo_115, hov_115, hk0_115, hk1_115, hta_115, htb_115, hz0_115, hz1_115, hpl_115, hft_115⟩ := id hX110
            have hS112 := CmpS.kept (h' := h106) hS40 (fun q _ _ => fr109 q (by omega))
            rcases o111 with rr0 | ⟨rr0, g0, gk0⟩
            · subst rr0
              refine ax_aload_n hC 3 dX4_visit_86 rfl rfl ?_
              refine ax_iconst (v := 1) hC dX4_visit_87 (by decide) ?_
              refine ax_iload_n hC 1 dX4_visit_88 rfl rfl ?_
              refine ax_iload_n hC 4 dX4_visit_89 rfl rfl ?_
              have hX116 : MtX z h106 mt cm aF aG nr TF TG W a b l0 l1 := ⟨_, _, _, _, _, _, _, _, _, _, q0_115, q1_115, q2_115, q3_115, q4_115, q5_115, q6_115, q7_115, hfo_115, hov_115, hk0_115, hk1_115, hta_115, htb_115, hz0_115, hz1_115, hpl_115, hft_115⟩
              refine ax_callVi (st := [.int 1]) hC [.int 1, .int 1, .int steps] q0_115 rfl (c_X4_moveOf_1 l D z B lo _ h106 mt cm aF aG nr TF TG W a b l0 l1 _ _ 1 steps hX116 hp_113 hp_114 hwF hwG hM hok hmF hmG hn1 (if_neg hc0).symm) (cwV 3 hC.1.2.2.2.2 gX4_visit_X4_moveOf rfl rfl rfl (by decide +kernel) ⟨Nat.le_of_ble_eq_true rfl, Nat.le_of_ble_eq_true rfl⟩) rfl rfl (Nat.le_of_ble_eq_true rfl) dX4_visit_90 ⟨Nat.le_of_ble_eq_true rfl, Nat.le_of_ble_eq_true rfl⟩ (fun r117 hi118 h119 hp120 => ?_)
              obtain ⟨ei121, fr122, hX123, o124⟩ := hp120
              replace ei121 := ei121.symm
              subst ei121
              have hp_126 : PrC z h119 aF _ TF := hp_113.kept (fun q _ _ => fr122 q (by omega))
              have hp_127 : PrC z h119 aG _ TG := hp_114.kept (fun q _ _ => fr122 q (by omega))
              obtain ⟨fo_128, most_128, over_128, pl_128, mv_128, sl_128, ft_128, tk_128, ats_128, lns_128, q0_128, q1_128, q2_128, q3_128, q4_128, q5_128, q6_128, q7_128, hfo_128, hov_128, hk0_128, hk1_128, hta_128, htb_128, hz0_128, hz1_128, hpl_128, hft_128⟩ := id hX123
              have hS125 := CmpS.kept (h' := h119) hS112 (fun q _ _ => fr122 q (by omega))
              rcases o124 with rr1 | ⟨rr1, g1, gk1⟩
              · subst rr1
                refine ax_ior hC dX4_visit_93 ?_
                refine ax_eqi (y := 1) (by decide) ?_
                refine ax_if_eq (tgt := 98) hC dX4_visit_94 (by decide) (fun c129 => ?_) (fun c129 => ?_)
                · exact absurd c129 (by decide)
                · refine ax_vret hC hr hlocks dX4_visit_97 ?_
                  exact ⟨rfl, fun q hq => ((fr122 q (by omega)).trans ((fr109 q (by omega)).trans ((fr39 q (by omega)).trans ((fr26 q (by omega)).trans (f9 q (by omega)))))), hS125, ⟨_, _, _, _, _, _, _, _, _, _, q0_128, q1_128, q2_128, q3_128, q4_128, q5_128, q6_128, q7_128, hfo_128, hov_128, hk0_128, hk1_128, hta_128, htb_128, hz0_128, hz1_128, hpl_128, hft_128⟩⟩
              · subst rr1
                refine ax_ior hC dX4_visit_93 ?_
                refine ax_eqi (y := 1) (by decide) ?_
                refine ax_if_eq (tgt := 98) hC dX4_visit_94 (by decide) (fun c130 => ?_) (fun c130 => ?_)
                · exact absurd c130 (by decide)
                · refine ax_vret hC hr hlocks dX4_visit_97 ?_
                  exact ⟨rfl, fun q hq => ((fr122 q (by omega)).trans ((fr109 q (by omega)).trans ((fr39 q (by omega)).trans ((fr26 q (by omega)).trans (f9 q (by omega)))))), hS125, ⟨_, _, _, _, _, _, _, _, _, _, q0_128, q1_128, q2_128, q3_128, q4_128, q5_128, q6_128, q7_128, hfo_128, hov_128, hk0_128, hk1_128, hta_128, htb_128, hz0_128, hz1_128, hpl_128, hft_128⟩⟩
            · subst rr0
              refine ax_aload_n hC 3 dX4_visit_86 rfl rfl ?_
              refine ax_iconst (v := 1) hC dX4_visit_87 (by decide) ?_
              refine ax_iload_n hC 1 dX4_visit_88 rfl rfl ?_
              refine ax_iload_n hC 4 dX4_visit_89 rfl rfl ?_
              have hX131 : MtX z h106 mt cm aF aG nr TF TG W a b l0 l1 := ⟨_, _, _, _, _, _, _, _, _, _, q0_115, q1_115, q2_115, q3_115, q4_115, q5_115, q6_115, q7_115, hfo_115, hov_115, hk0_115, hk1_115, hta_115, htb_115, hz0_115, hz1_115, hpl_115, hft_115⟩
              refine ax_callVi (st := [.int 0]) hC [.int 1, .int 1, .int steps] q0_115 rfl (c_X4_moveOf_1 l D z B lo _ h106 mt cm aF aG nr TF TG W a b l0 l1 _ _ 1 steps hX131 hp_113 hp_114 hwF hwG hM hok hmF hmG hn1 (if_neg hc0).symm) (cwV 3 hC.1.2.2.2.2 gX4_visit_X4_moveOf rfl rfl rfl (by decide +kernel) ⟨Nat.le_of_ble_eq_true rfl, Nat.le_of_ble_eq_true rfl⟩) rfl rfl (Nat.le_of_ble_eq_true rfl) dX4_visit_90 ⟨Nat.le_of_ble_eq_true rfl, Nat.le_of_ble_eq_true rfl⟩ (fun r132 hi133 h134 hp135 => ?_)
              obtain ⟨ei136, fr137, hX138, o139⟩ := hp135
              replace ei136 := ei136.symm
              subst ei136
              have hp_141 : PrC z h134 aF _ TF := hp_113.kept (fun q _ _ => fr137 q (by omega))
              have hp_142 : PrC z h134 aG _ TG := hp_114.kept (fun q _ _ => fr137 q (by omega))
              obtain ⟨fo_143, most_143, over_143, pl_143, mv_143, sl_143, ft_143, tk_143, ats_143, lns_143, q0_143, q1_143, q2_143, q3_143, q4_143, q5_143, q6_143, q7_143, hfo_143, hov_143, hk0_143, hk1_143, hta_143, htb_143, hz0_143, hz1_143, hpl_143, hft_143⟩ := id hX138
              have hS140 := CmpS.kept (h' := h134) hS112 (fun q _ _ => fr137 q (by omega))
              rcases o139 with rr1 | ⟨rr1, g1, gk1⟩
              · subst rr1
                refine ax_ior hC dX4_visit_93 ?_
                refine ax_eqi (y := 1) (by decide) ?_
                refine ax_if_eq (tgt := 98) hC dX4_visit_94 (by decide) (fun c144 => ?_) (fun c144 => ?_)
                · exact absurd c144 (by decide)
                · refine ax_vret hC hr hlocks dX4_visit_97 ?_
                  exact ⟨rfl, fun q hq => ((fr137 q (by omega)).trans ((fr109 q (by omega)).trans ((fr39 q (by omega)).trans ((fr26 q (by omega)).trans (f9 q (by omega)))))), hS140, ⟨_, _, _, _, _, _, _, _, _, _, q0_143, q1_143, q2_143, q3_143, q4_143, q5_143, q6_143, q7_143, hfo_143, hov_143, hk0_143, hk1_143, hta_143, htb_143, hz0_143, hz1_143, hpl_143, hft_143⟩⟩
              · subst rr1
                refine ax_ior hC dX4_visit_93 ?_
                refine ax_eqi (y := 0) (by decide) ?_
                refine ax_if_eq (tgt := 98) hC dX4_visit_94 (by decide) (fun c145 => ?_) (fun c145 => ?_)
                · have hd := PlaceOK.dead hwF hwG hM (by have q9 := hok; rw [g0, g1] at q9; exact q9) (gk0 g1).1 (gk0 g1).2 (gk1 g0).1 (gk1 g0).2
                  refine ax_aload_n hC 3 dX4_visit_98 rfl rfl ?_
                  refine ax_iconst (v := 0) hC dX4_visit_99 (by decide) ?_
                  have hX146 : MtX z h134 mt cm aF aG nr TF TG W a b l0 l1 := ⟨_, _, _, _, _, _, _, _, _, _, q0_143, q1_143, q2_143, q3_143, q4_143, q5_143, q6_143, q7_143, hfo_143, hov_143, hk0_143, hk1_143, hta_143, htb_143, hz0_143, hz1_143, hpl_143, hft_143⟩
                  refine ax_callVp (st := []) hC [.int 0] q0_143 rfl (c_X4_isAtEnd_0 l D z B lo _ h134 mt cm aF aG nr TF TG W a b l0 l1 _ _ hX146 hp_141 hp_142 hwF hwG hM hok hmF hmG hd.1 g1) (cwV 1 hC.1.2.2.2.2 gX4_visit_X4_isAtEnd rfl rfl rfl (by decide +kernel) ⟨Nat.le_of_ble_eq_true rfl, Nat.le_of_ble_eq_true rfl⟩) rfl rfl (Nat.le_of_ble_eq_true rfl) dX4_visit_100 ⟨Nat.le_of_ble_eq_true rfl, Nat.le_of_ble_eq_true rfl⟩ (fun r147 er148 => ?_)
                  subst er148
                  refine ax_if_eq (tgt := 115) hC dX4_visit_103 (by decide) (fun c149 => ?_) (fun c149 => ?_)
                  · exact absurd c149 (by decide)
                  · refine ax_aload_n hC 3 dX4_visit_106 rfl rfl ?_
                    refine ax_iconst (v := 1) hC dX4_visit_107 (by decide) ?_
                    have hX150 : MtX z h134 mt cm aF aG nr TF TG W a b l0 l1 := ⟨_, _, _, _, _, _, _, _, _, _, q0_143, q1_143, q2_143, q3_143, q4_143, q5_143, q6_143, q7_143, hfo_143, hov_143, hk0_143, hk1_143, hta_143, htb_143, hz0_143, hz1_143, hpl_143, hft_143⟩
                    refine ax_callVp (st := []) hC [.int 1] q0_143 rfl (c_X4_isAtEnd_1 l D z B lo _ h134 mt cm aF aG nr TF TG W a b l0 l1 _ _ hX150 hp_141 hp_142 hwF hwG hM hok hmF hmG hd.2 g0) (cwV 1 hC.1.2.2.2.2 gX4_visit_X4_isAtEnd rfl rfl rfl (by decide +kernel) ⟨Nat.le_of_ble_eq_true rfl, Nat.le_of_ble_eq_true rfl⟩) rfl rfl (Nat.le_of_ble_eq_true rfl) dX4_visit_108 ⟨Nat.le_of_ble_eq_true rfl, Nat.le_of_ble_eq_true rfl⟩ (fun r151 er152 => ?_)
                    subst er152
                    refine ax_if_eq (tgt := 115) hC dX4_visit_111 (by decide) (fun c153 => ?_) (fun c153 => ?_)
                    · exact absurd c153 (by decide)
                    · refine ax_vret hC hr hlocks dX4_visit_114 ?_
                      exact ⟨rfl, fun q hq => ((fr137 q (by omega)).trans ((fr109 q (by omega)).trans ((fr39 q (by omega)).trans ((fr26 q (by omega)).trans (f9 q (by omega)))))), hS140, ⟨_, _, _, _, _, _, _, _, _, _, q0_143, q1_143, q2_143, q3_143, q4_143, q5_143, q6_143, q7_143, hfo_143, hov_143, hk0_143, hk1_143, hta_143, htb_143, hz0_143, hz1_143, hpl_143, hft_143⟩⟩
                · exact absurd c145 (by decide)
          · exact absurd c102 (by decide)
        · exact absurd c101 (by decide)
  · rw [if_neg hc1] at hr29
    subst hr29
    refine ax_istore_n hC [(2, .int 1), (0, .ref mt), (1, .int steps)] dX4_visit_37 rfl (by decide) rfl ?_
    refine ax_aload_n hC 1 dX4_visit_38 rfl rfl ?_
    refine ax_iconst (v := 1) hC dX4_visit_39 (by decide) ?_
    have hX154 : MtX z h23 mt cm aF aG nr TF TG W a b l0 l1 := ⟨_, _, _, _, _, _, _, _, _, _, q0_32, q1_32, q2_32, q3_32, q4_32, q5_32, q6_32, q7_32, hfo_32, hov_32, hk0_32, hk1_32, hta_32, htb_32, hz0_32, hz1_32, hpl_32, hft_32⟩
    refine ax_callVi (st := []) hC [.int 1] q0_32 rfl (c_X4_taking_1 l D z B lo _ h23 mt cm aF aG nr TF TG W a b l0 l1 _ _ hX154 hp_30 hp_31 hwF hwG hM hok hmF hmG hS27 hcm) (cwV 1 hC.1.2.2.2.2 gX4_visit_X4_taking rfl rfl rfl (by decide +kernel) ⟨Nat.le_of_ble_eq_true rfl, Nat.le_of_ble_eq_true rfl⟩) rfl rfl (Nat.le_of_ble_eq_true rfl) dX4_visit_40 ⟨Nat.le_of_ble_eq_true rfl, Nat.le_of_ble_eq_true rfl⟩ (fun r155 hi156 h157 hp158 => ?_)
    obtain ⟨ei159, fr160, hS161, hX162, hr163⟩ := hp158
    replace ei159 := ei159.symm
    subst ei159
    have hp_164 : PrC z h157 aF _ TF := hp_30.kept (fun q _ _ => fr160 q (by omega))
    have hp_165 : PrC z h157 aG _ TG := hp_31.kept (fun q _ _ => fr160 q (by omega))
    obtain ⟨fo_166, most_166, over_166, pl_166, mv_166, sl_166, ft_166, tk_166, ats_166, lns_166, q0_166, q1_166, q2_166, q3_166, q4_166, q5_166, q6_166, q7_166, hfo_166, hov_166, hk0_166, hk1_166, hta_166, htb_166, hz0_166, hz1_166, hpl_166, hft_166⟩ := id hX162
    by_cases hc0 : l0 = 0
    · rw [if_pos hc0] at hr163
      subst hr163
      refine ax_istore_n hC [(3, .int 0), (2, .int 1), (0, .ref mt), (1, .int steps)] dX4_visit_43 rfl (by decide) rfl ?_
      refine ax_iload_n hC 1 dX4_visit_44 rfl rfl ?_
      refine ax_iconst (v := 2) hC dX4_visit_45 (by decide) ?_
      refine ax_icmp_eq (tgt := 54) hC dX4_visit_46 (by decide) (fun c167 => ?_) (fun c167 => ?_)
      · exact absurd c167 (by decide)
      · refine ax_iload_n hC 0 dX4_visit_49 rfl rfl ?_
        refine ax_iconst (v := 2) hC dX4_visit_50 (by decide) ?_
        refine ax_icmp_ne (tgt := 58) hC dX4_visit_51 (by decide) (fun c168 => ?_) (fun c168 => ?_)
        · refine ax_iconst (v := 0) hC dX4_visit_58 (by decide) ?_
          refine ax_istore hC [(4, .int 0), (3, .int 0), (2, .int 1), (0, .ref mt), (1, .int steps)] dX4_visit_59 (by decide) rfl ?_
          refine ax_iload hC 0 dX4_visit_61 rfl ?_
          refine ax_if_eq (tgt := 79) hC dX4_visit_63 (by decide) (fun c169 => ?_) (fun c169 => ?_)
          · refine ax_aload_n hC 3 dX4_visit_79 rfl rfl ?_
            refine ax_iconst (v := 0) hC dX4_visit_80 (by decide) ?_
            refine ax_iload_n hC 2 dX4_visit_81 rfl rfl ?_
            refine ax_iload_n hC 4 dX4_visit_82 rfl rfl ?_
            have hX170 : MtX z h157 mt cm aF aG nr TF TG W a b l0 l1 := ⟨_, _, _, _, _, _, _, _, _, _, q0_166, q1_166, q2_166, q3_166, q4_166, q5_166, q6_166, q7_166, hfo_166, hov_166, hk0_166, hk1_166, hta_166, htb_166, hz0_166, hz1_166, hpl_166, hft_166⟩
            refine ax_callVi (st := []) hC [.int 0, .int 1, .int steps] q0_166 rfl (c_X4_moveOf_0 l D z B lo _ h157 mt cm aF aG nr TF TG W a b l0 l1 _ _ 1 steps hX170 hp_164 hp_165 hwF hwG hM hok hmF hmG hn1 (if_neg hc1).symm) (cwV 3 hC.1.2.2.2.2 gX4_visit_X4_moveOf rfl rfl rfl (by decide +kernel) ⟨Nat.le_of_ble_eq_true rfl, Nat.le_of_ble_eq_true rfl⟩) rfl rfl (Nat.le_of_ble_eq_true rfl) dX4_visit_83 ⟨Nat.le_of_ble_eq_true rfl, Nat.le_of_ble_eq_true rfl⟩ (fun r171 hi172 h173 hp174 => ?_)
            obtain ⟨ei175, fr176, hX177, o178⟩ := hp174
            replace ei175 := ei175.symm
            subst ei175
            have hp_180 : PrC z h173 aF _ TF := hp_164.kept (fun q _ _ => fr176 q (by omega))
            have hp_181 : PrC z h173 aG _ TG := hp_165.kept (fun q _ _ => fr176 q (by omega))
            obtain ⟨fo_182, most_182, over_182, pl_182, mv_182, sl_182, ft_182, tk_182, ats_182, lns_182, q0_182, q1_182, q2_182, q3_182, q4_182, q5_182, q6_182, q7_182, hfo_182, hov_182, hk0_182, hk1_182, hta_182, htb_182, hz0_182, hz1_182, hpl_182, hft_182⟩ := id hX177
            have hS179 := CmpS.kept (h' := h173) hS161 (fun q _ _ => fr176 q (by omega))
            rcases o178 with rr0 | ⟨rr0, g0, gk0⟩
            · subst rr0
              refine ax_aload_n hC 3 dX4_visit_86 rfl rfl ?_
              refine ax_iconst (v := 1) hC dX4_visit_87 (by decide) ?_
              refine ax_iload_n hC 1 dX4_visit_88 rfl rfl ?_
              refine ax_iload_n hC 4 dX4_visit_89 rfl rfl ?_
              have hX183 : MtX z h173 mt cm aF aG nr TF TG W a b l0 l1 := ⟨_, _, _, _, _, _, _, _, _, _, q0_182, q1_182, q2_182, q3_182, q4_182, q5_182, q6_182, q7_182, hfo_182, hov_182, hk0_182, hk1_182, hta_182, htb_182, hz0_182, hz1_182, hpl_182, hft_182⟩
              refine ax_callVi (st := [.int 1]) hC [.int 1, .int 0, .int steps] q0_182 rfl (c_X4_moveOf_1 l D z B lo _ h173 mt cm aF aG nr TF TG W a b l0 l1 _ _ 0 steps hX183 hp_180 hp_181 hwF hwG hM hok hmF hmG hn1 (if_pos hc0).symm) (cwV 3 hC.1.2.2.2.2 gX4_visit_X4_moveOf rfl rfl rfl (by decide +kernel) ⟨Nat.le_of_ble_eq_true rfl, Nat.le_of_ble_eq_true rfl⟩) rfl rfl (Nat.le_of_ble_eq_true rfl) dX4_visit_90 ⟨Nat.le_of_ble_eq_true rfl, Nat.le_of_ble_eq_true rfl⟩ (fun r184 hi185 h186 hp187 => ?_)
              obtain ⟨ei188, fr189, hX190, o191⟩ := hp187
              replace ei188 := ei188.symm
              subst ei188
              have hp_193 : PrC z h186 aF _ TF := hp_180.kept (fun q _ _ => fr189 q (by omega))
              have hp_194 : PrC z h186 aG _ TG := hp_181.kept (fun q _ _ => fr189 q (by omega))
              obtain ⟨fo_195, most_195, over_195, pl_195, mv_195, sl_195, ft_195, tk_195, ats_195, lns_195, q0_195, q1_195, q2_195, q3_195, q4_195, q5_195, q6_195, q7_195, hfo_195, hov_195, hk0_195, hk1_195, hta_195, htb_195, hz0_195, hz1_195, hpl_195, hft_195⟩ := id hX190
              have hS192 := CmpS.kept (h' := h186) hS179 (fun q _ _ => fr189 q (by omega))
              rcases o191 with rr1 | ⟨rr1, g1, gk1⟩
              · subst rr1
                refine ax_ior hC dX4_visit_93 ?_
                refine ax_eqi (y := 1) (by decide) ?_
                refine ax_if_eq (tgt := 98) hC dX4_visit_94 (by decide) (fun c196 => ?_) (fun c196 => ?_)
                · exact absurd c196 (by decide)
                · refine ax_vret hC hr hlocks dX4_visit_97 ?_
                  exact ⟨rfl, fun q hq => ((fr189 q (by omega)).trans ((fr176 q (by omega)).trans ((fr160 q (by omega)).trans ((fr26 q (by omega)).trans (f9 q (by omega)))))), hS192, ⟨_, _, _, _, _, _, _, _, _, _, q0_195, q1_195, q2_195, q3_195, q4_195, q5_195, q6_195, q7_195, hfo_195, hov_195, hk0_195, hk1_195, hta_195, htb_195, hz0_195, hz1_195, hpl_195, hft_195⟩⟩
              · subst rr1
                refine ax_ior hC dX4_visit_93 ?_
                refine ax_eqi (y := 1) (by decide) ?_
                refine ax_if_eq (tgt := 98) hC dX4_visit_94 (by decide) (fun c197 => ?_) (fun c197 => ?_)
                · exact absurd c197 (by decide)
                · refine ax_vret hC hr hlocks dX4_visit_97 ?_
                  exact ⟨rfl, fun q hq => ((fr189 q (by omega)).trans ((fr176 q (by omega)).trans ((fr160 q (by omega)).trans ((fr26 q (by omega)).trans (f9 q (by omega)))))), hS192, ⟨_, _, _, _, _, _, _, _, _, _, q0_195, q1_195, q2_195, q3_195, q4_195, q5_195, q6_195, q7_195, hfo_195, hov_195, hk0_195, hk1_195, hta_195, htb_195, hz0_195, hz1_195, hpl_195, hft_195⟩⟩
            · subst rr0
              refine ax_aload_n hC 3 dX4_visit_86 rfl rfl ?_
              refine ax_iconst (v := 1) hC dX4_visit_87 (by decide) ?_
              refine ax_iload_n hC 1 dX4_visit_88 rfl rfl ?_
              refine ax_iload_n hC 4 dX4_visit_89 rfl rfl ?_
              have hX198 : MtX z h173 mt cm aF aG nr TF TG W a b l0 l1 := ⟨_, _, _, _, _, _, _, _, _, _, q0_182, q1_182, q2_182, q3_182, q4_182, q5_182, q6_182, q7_182, hfo_182, hov_182, hk0_182, hk1_182, hta_182, htb_182, hz0_182, hz1_182, hpl_182, hft_182⟩
              refine ax_callVi (st := [.int 0]) hC [.int 1, .int 0, .int steps] q0_182 rfl (c_X4_moveOf_1 l D z B lo _ h173 mt cm aF aG nr TF TG W a b l0 l1 _ _ 0 steps hX198 hp_180 hp_181 hwF hwG hM hok hmF hmG hn1 (if_pos hc0).symm) (cwV 3 hC.1.2.2.2.2 gX4_visit_X4_moveOf rfl rfl rfl (by decide +kernel) ⟨Nat.le_of_ble_eq_true rfl, Nat.le_of_ble_eq_true rfl⟩) rfl rfl (Nat.le_of_ble_eq_true rfl) dX4_visit_90 ⟨Nat.le_of_ble_eq_true rfl, Nat.le_of_ble_eq_true rfl⟩ (fun r199 hi200 h201 hp202 => ?_)
              obtain ⟨ei203, fr204, hX205, o206⟩ := hp202
              replace ei203 := ei203.symm
              subst ei203
              have hp_208 : PrC z h201 aF _ TF := hp_180.kept (fun q _ _ => fr204 q (by omega))
              have hp_209 : PrC z h201 aG _ TG := hp_181.kept (fun q _ _ => fr204 q (by omega))
              obtain ⟨fo_210, most_210, over_210, pl_210, mv_210, sl_210, ft_210, tk_210, ats_210, lns_210, q0_210, q1_210, q2_210, q3_210, q4_210, q5_210, q6_210, q7_210, hfo_210, hov_210, hk0_210, hk1_210, hta_210, htb_210, hz0_210, hz1_210, hpl_210, hft_210⟩ := id hX205
              have hS207 := CmpS.kept (h' := h201) hS179 (fun q _ _ => fr204 q (by omega))
              rcases o206 with rr1 | ⟨rr1, g1, gk1⟩
              · subst rr1
                refine ax_ior hC dX4_visit_93 ?_
                refine ax_eqi (y := 1) (by decide) ?_
                refine ax_if_eq (tgt := 98) hC dX4_visit_94 (by decide) (fun c211 => ?_) (fun c211 => ?_)
                · exact absurd c211 (by decide)
                · refine ax_vret hC hr hlocks dX4_visit_97 ?_
                  exact ⟨rfl, fun q hq => ((fr204 q (by omega)).trans ((fr176 q (by omega)).trans ((fr160 q (by omega)).trans ((fr26 q (by omega)).trans (f9 q (by omega)))))), hS207, ⟨_, _, _, _, _, _, _, _, _, _, q0_210, q1_210, q2_210, q3_210, q4_210, q5_210, q6_210, q7_210, hfo_210, hov_210, hk0_210, hk1_210, hta_210, htb_210, hz0_210, hz1_210, hpl_210, hft_210⟩⟩
              · subst rr1
                refine ax_ior hC dX4_visit_93 ?_
                refine ax_eqi (y := 0) (by decide) ?_
                refine ax_if_eq (tgt := 98) hC dX4_visit_94 (by decide) (fun c212 => ?_) (fun c212 => ?_)
                · have hd := PlaceOK.dead hwF hwG hM (by have q9 := hok; rw [g0, g1] at q9; exact q9) (gk0 g1).1 (gk0 g1).2 (gk1 g0).1 (gk1 g0).2
                  refine ax_aload_n hC 3 dX4_visit_98 rfl rfl ?_
                  refine ax_iconst (v := 0) hC dX4_visit_99 (by decide) ?_
                  have hX213 : MtX z h201 mt cm aF aG nr TF TG W a b l0 l1 := ⟨_, _, _, _, _, _, _, _, _, _, q0_210, q1_210, q2_210, q3_210, q4_210, q5_210, q6_210, q7_210, hfo_210, hov_210, hk0_210, hk1_210, hta_210, htb_210, hz0_210, hz1_210, hpl_210, hft_210⟩
                  refine ax_callVp (st := []) hC [.int 0] q0_210 rfl (c_X4_isAtEnd_0 l D z B lo _ h201 mt cm aF aG nr TF TG W a b l0 l1 _ _ hX213 hp_208 hp_209 hwF hwG hM hok hmF hmG hd.1 g1) (cwV 1 hC.1.2.2.2.2 gX4_visit_X4_isAtEnd rfl rfl rfl (by decide +kernel) ⟨Nat.le_of_ble_eq_true rfl, Nat.le_of_ble_eq_true rfl⟩) rfl rfl (Nat.le_of_ble_eq_true rfl) dX4_visit_100 ⟨Nat.le_of_ble_eq_true rfl, Nat.le_of_ble_eq_true rfl⟩ (fun r214 er215 => ?_)
                  subst er215
                  refine ax_if_eq (tgt := 115) hC dX4_visit_103 (by decide) (fun c216 => ?_) (fun c216 => ?_)
                  · exact absurd c216 (by decide)
                  · refine ax_aload_n hC 3 dX4_visit_106 rfl rfl ?_
                    refine ax_iconst (v := 1) hC dX4_visit_107 (by decide) ?_
                    have hX217 : MtX z h201 mt cm aF aG nr TF TG W a b l0 l1 := ⟨_, _, _, _, _, _, _, _, _, _, q0_210, q1_210, q2_210, q3_210, q4_210, q5_210, q6_210, q7_210, hfo_210, hov_210, hk0_210, hk1_210, hta_210, htb_210, hz0_210, hz1_210, hpl_210, hft_210⟩
                    refine ax_callVp (st := []) hC [.int 1] q0_210 rfl (c_X4_isAtEnd_1 l D z B lo _ h201 mt cm aF aG nr TF TG W a b l0 l1 _ _ hX217 hp_208 hp_209 hwF hwG hM hok hmF hmG hd.2 g0) (cwV 1 hC.1.2.2.2.2 gX4_visit_X4_isAtEnd rfl rfl rfl (by decide +kernel) ⟨Nat.le_of_ble_eq_true rfl, Nat.le_of_ble_eq_true rfl⟩) rfl rfl (Nat.le_of_ble_eq_true rfl) dX4_visit_108 ⟨Nat.le_of_ble_eq_true rfl, Nat.le_of_ble_eq_true rfl⟩ (fun r218 er219 => ?_)
                    subst er219
                    refine ax_if_eq (tgt := 115) hC dX4_visit_111 (by decide) (fun c220 => ?_) (fun c220 => ?_)
                    · exact absurd c220 (by decide)
                    · refine ax_vret hC hr hlocks dX4_visit_114 ?_
                      exact ⟨rfl, fun q hq => ((fr204 q (by omega)).trans ((fr176 q (by omega)).trans ((fr160 q (by omega)).trans ((fr26 q (by omega)).trans (f9 q (by omega)))))), hS207, ⟨_, _, _, _, _, _, _, _, _, _, q0_210, q1_210, q2_210, q3_210, q4_210, q5_210, q6_210, q7_210, hfo_210, hov_210, hk0_210, hk1_210, hta_210, htb_210, hz0_210, hz1_210, hpl_210, hft_210⟩⟩
                · exact absurd c212 (by decide)
          · exact absurd c169 (by decide)
        · exact absurd c168 (by decide)
    · rw [if_neg hc0] at hr163
      subst hr163
      refine ax_istore_n hC [(3, .int 1), (2, .int 1), (0, .ref mt), (1, .int steps)] dX4_visit_43 rfl (by decide) rfl ?_
      refine ax_iload_n hC 1 dX4_visit_44 rfl rfl ?_
      refine ax_iconst (v := 2) hC dX4_visit_45 (by decide) ?_
      refine ax_icmp_eq (tgt := 54) hC dX4_visit_46 (by decide) (fun c221 => ?_) (fun c221 => ?_)
      · exact absurd c221 (by decide)
      · refine ax_iload_n hC 0 dX4_visit_49 rfl rfl ?_
        refine ax_iconst (v := 2) hC dX4_visit_50 (by decide) ?_
        refine ax_icmp_ne (tgt := 58) hC dX4_visit_51 (by decide) (fun c222 => ?_) (fun c222 => ?_)
        · refine ax_iconst (v := 0) hC dX4_visit_58 (by decide) ?_
          refine ax_istore hC [(4, .int 0), (3, .int 1), (2, .int 1), (0, .ref mt), (1, .int steps)] dX4_visit_59 (by decide) rfl ?_
          refine ax_iload hC 0 dX4_visit_61 rfl ?_
          refine ax_if_eq (tgt := 79) hC dX4_visit_63 (by decide) (fun c223 => ?_) (fun c223 => ?_)
          · refine ax_aload_n hC 3 dX4_visit_79 rfl rfl ?_
            refine ax_iconst (v := 0) hC dX4_visit_80 (by decide) ?_
            refine ax_iload_n hC 2 dX4_visit_81 rfl rfl ?_
            refine ax_iload_n hC 4 dX4_visit_82 rfl rfl ?_
            have hX224 : MtX z h157 mt cm aF aG nr TF TG W a b l0 l1 := ⟨_, _, _, _, _, _, _, _, _, _, q0_166, q1_166, q2_166, q3_166, q4_166, q5_166, q6_166, q7_166, hfo_166, hov_166, hk0_166, hk1_166, hta_166, htb_166, hz0_166, hz1_166, hpl_166, hft_166⟩
            refine ax_callVi (st := []) hC [.int 0, .int 1, .int steps] q0_166 rfl (c_X4_moveOf_0 l D z B lo _ h157 mt cm aF aG nr TF TG W a b l0 l1 _ _ 1 steps hX224 hp_164 hp_165 hwF hwG hM hok hmF hmG hn1 (if_neg hc1).symm) (cwV 3 hC.1.2.2.2.2 gX4_visit_X4_moveOf rfl rfl rfl (by decide +kernel) ⟨Nat.le_of_ble_eq_true rfl, Nat.le_of_ble_eq_true rfl⟩) rfl rfl (Nat.le_of_ble_eq_true rfl) dX4_visit_83 ⟨Nat.le_of_ble_eq_true rfl, Nat.le_of_ble_eq_true rfl⟩ (fun r225 hi226 h227 hp228 => ?_)
            obtain ⟨ei229, fr230, hX231, o232⟩ := hp228
            replace ei229 := ei229.symm
            subst ei229
            have hp_234 : PrC z h227 aF _ TF := hp_164.kept (fun q _ _ => fr230 q (by omega))
            have hp_235 : PrC z h227 aG _ TG := hp_165.kept (fun q _ _ => fr230 q (by omega))
            obtain ⟨fo_236, most_236, over_236, pl_236, mv_236, sl_236, ft_236, tk_236, ats_236, lns_236, q0_236, q1_236, q2_236, q3_236, q4_236, q5_236, q6_236, q7_236, hfo_236, hov_236, hk0_236, hk1_236, hta_236, htb_236, hz0_236, hz1_236, hpl_236, hft_236⟩ := id hX231
            have hS233 := CmpS.kept (h' := h227) hS161 (fun q _ _ => fr230 q (by omega))
            rcases o232 with rr0 | ⟨rr0, g0, gk0⟩
            · subst rr0
              refine ax_aload_n hC 3 dX4_visit_86 rfl rfl ?_
              refine ax_iconst (v := 1) hC dX4_visit_87 (by decide) ?_
              refine ax_iload_n hC 1 dX4_visit_88 rfl rfl ?_
              refine ax_iload_n hC 4 dX4_visit_89 rfl rfl ?_
              have hX237 : MtX z h227 mt cm aF aG nr TF TG W a b l0 l1 := ⟨_, _, _, _, _, _, _, _, _, _, q0_236, q1_236, q2_236, q3_236, q4_236, q5_236, q6_236, q7_236, hfo_236, hov_236, hk0_236, hk1_236, hta_236, htb_236, hz0_236, hz1_236, hpl_236, hft_236⟩
              refine ax_callVi (st := [.int 1]) hC [.int 1, .int 1, .int steps] q0_236 rfl (c_X4_moveOf_1 l D z B lo _ h227 mt cm aF aG nr TF TG W a b l0 l1 _ _ 1 steps hX237 hp_234 hp_235 hwF hwG hM hok hmF hmG hn1 (if_neg hc0).symm) (cwV 3 hC.1.2.2.2.2 gX4_visit_X4_moveOf rfl rfl rfl (by decide +kernel) ⟨Nat.le_of_ble_eq_true rfl, Nat.le_of_ble_eq_true rfl⟩) rfl rfl (Nat.le_of_ble_eq_true rfl) dX4_visit_90 ⟨Nat.le_of_ble_eq_true rfl, Nat.le_of_ble_eq_true rfl⟩ (fun r238 hi239 h240 hp241 => ?_)
              obtain ⟨ei242, fr243, hX244, o245⟩ := hp241
              replace ei242 := ei242.symm
              subst ei242
              have hp_247 : PrC z h240 aF _ TF := hp_234.kept (fun q _ _ => fr243 q (by omega))
              have hp_248 : PrC z h240 aG _ TG := hp_235.kept (fun q _ _ => fr243 q (by omega))
              obtain ⟨fo_249, most_249, over_249, pl_249, mv_249, sl_249, ft_249, tk_249, ats_249, lns_249, q0_249, q1_249, q2_249, q3_249, q4_249, q5_249, q6_249, q7_249, hfo_249, hov_249, hk0_249, hk1_249, hta_249, htb_249, hz0_249, hz1_249, hpl_249, hft_249⟩ := id hX244
              have hS246 := CmpS.kept (h' := h240) hS233 (fun q _ _ => fr243 q (by omega))
              rcases o245 with rr1 | ⟨rr1, g1, gk1⟩
              · subst rr1
                refine ax_ior hC dX4_visit_93 ?_
                refine ax_eqi (y := 1) (by decide) ?_
                refine ax_if_eq (tgt := 98) hC dX4_visit_94 (by decide) (fun c250 => ?_) (fun c250 => ?_)
                · exact absurd c250 (by decide)
                · refine ax_vret hC hr hlocks dX4_visit_97 ?_
                  exact ⟨rfl, fun q hq => ((fr243 q (by omega)).trans ((fr230 q (by omega)).trans ((fr160 q (by omega)).trans ((fr26 q (by omega)).trans (f9 q (by omega)))))), hS246, ⟨_, _, _, _, _, _, _, _, _, _, q0_249, q1_249, q2_249, q3_249, q4_249, q5_249, q6_249, q7_249, hfo_249, hov_249, hk0_249, hk1_249, hta_249, htb_249, hz0_249, hz1_249, hpl_249, hft_249⟩⟩
              · subst rr1
                refine ax_ior hC dX4_visit_93 ?_
                refine ax_eqi (y := 1) (by decide) ?_
                refine ax_if_eq (tgt := 98) hC dX4_visit_94 (by decide) (fun c251 => ?_) (fun c251 => ?_)
                · exact absurd c251 (by decide)
                · refine ax_vret hC hr hlocks dX4_visit_97 ?_
                  exact ⟨rfl, fun q hq => ((fr243 q (by omega)).trans ((fr230 q (by omega)).trans ((fr160 q (by omega)).trans ((fr26 q (by omega)).trans (f9 q (by omega)))))), hS246, ⟨_, _, _, _, _, _, _, _, _, _, q0_249, q1_249, q2_249, q3_249, q4_249, q5_249, q6_249, q7_249, hfo_249, hov_249, hk0_249, hk1_249, hta_249, htb_249, hz0_249, hz1_249, hpl_249, hft_249⟩⟩
            · subst rr0
              refine ax_aload_n hC 3 dX4_visit_86 rfl rfl ?_
              refine ax_iconst (v := 1) hC dX4_visit_87 (by decide) ?_
              refine ax_iload_n hC 1 dX4_visit_88 rfl rfl ?_
              refine ax_iload_n hC 4 dX4_visit_89 rfl rfl ?_
              have hX252 : MtX z h227 mt cm aF aG nr TF TG W a b l0 l1 := ⟨_, _, _, _, _, _, _, _, _, _, q0_236, q1_236, q2_236, q3_236, q4_236, q5_236, q6_236, q7_236, hfo_236, hov_236, hk0_236, hk1_236, hta_236, htb_236, hz0_236, hz1_236, hpl_236, hft_236⟩
              refine ax_callVi (st := [.int 0]) hC [.int 1, .int 1, .int steps] q0_236 rfl (c_X4_moveOf_1 l D z B lo _ h227 mt cm aF aG nr TF TG W a b l0 l1 _ _ 1 steps hX252 hp_234 hp_235 hwF hwG hM hok hmF hmG hn1 (if_neg hc0).symm) (cwV 3 hC.1.2.2.2.2 gX4_visit_X4_moveOf rfl rfl rfl (by decide +kernel) ⟨Nat.le_of_ble_eq_true rfl, Nat.le_of_ble_eq_true rfl⟩) rfl rfl (Nat.le_of_ble_eq_true rfl) dX4_visit_90 ⟨Nat.le_of_ble_eq_true rfl, Nat.le_of_ble_eq_true rfl⟩ (fun r253 hi254 h255 hp256 => ?_)
              obtain ⟨ei257, fr258, hX259, o260⟩ := hp256
              replace ei257 := ei257.symm
              subst ei257
              have hp_262 : PrC z h255 aF _ TF := hp_234.kept (fun q _ _ => fr258 q (by omega))
              have hp_263 : PrC z h255 aG _ TG := hp_235.kept (fun q _ _ => fr258 q (by omega))
              obtain ⟨fo_264, most_264, over_264, pl_264, mv_264, sl_264, ft_264, tk_264, ats_264, lns_264, q0_264, q1_264, q2_264, q3_264, q4_264, q5_264, q6_264, q7_264, hfo_264, hov_264, hk0_264, hk1_264, hta_264, htb_264, hz0_264, hz1_264, hpl_264, hft_264⟩ := id hX259
              have hS261 := CmpS.kept (h' := h255) hS233 (fun q _ _ => fr258 q (by omega))
              rcases o260 with rr1 | ⟨rr1, g1, gk1⟩
              · subst rr1
                refine ax_ior hC dX4_visit_93 ?_
                refine ax_eqi (y := 1) (by decide) ?_
                refine ax_if_eq (tgt := 98) hC dX4_visit_94 (by decide) (fun c265 => ?_) (fun c265 => ?_)
                · exact absurd c265 (by decide)
                · refine ax_vret hC hr hlocks dX4_visit_97 ?_
                  exact ⟨rfl, fun q hq => ((fr258 q (by omega)).trans ((fr230 q (by omega)).trans ((fr160 q (by omega)).trans ((fr26 q (by omega)).trans (f9 q (by omega)))))), hS261, ⟨_, _, _, _, _, _, _, _, _, _, q0_264, q1_264, q2_264, q3_264, q4_264, q5_264, q6_264, q7_264, hfo_264, hov_264, hk0_264, hk1_264, hta_264, htb_264, hz0_264, hz1_264, hpl_264, hft_264⟩⟩
              · subst rr1
                refine ax_ior hC dX4_visit_93 ?_
                refine ax_eqi (y := 0) (by decide) ?_
                refine ax_if_eq (tgt := 98) hC dX4_visit_94 (by decide) (fun c266 => ?_) (fun c266 => ?_)
                · have hd := PlaceOK.dead hwF hwG hM (by have q9 := hok; rw [g0, g1] at q9; exact q9) (gk0 g1).1 (gk0 g1).2 (gk1 g0).1 (gk1 g0).2
                  refine ax_aload_n hC 3 dX4_visit_98 rfl rfl ?_
                  refine ax_iconst (v := 0) hC dX4_visit_99 (by decide) ?_
                  have hX267 : MtX z h255 mt cm aF aG nr TF TG W a b l0 l1 := ⟨_, _, _, _, _, _, _, _, _, _, q0_264, q1_264, q2_264, q3_264, q4_264, q5_264, q6_264, q7_264, hfo_264, hov_264, hk0_264, hk1_264, hta_264, htb_264, hz0_264, hz1_264, hpl_264, hft_264⟩
                  refine ax_callVp (st := []) hC [.int 0] q0_264 rfl (c_X4_isAtEnd_0 l D z B lo _ h255 mt cm aF aG nr TF TG W a b l0 l1 _ _ hX267 hp_262 hp_263 hwF hwG hM hok hmF hmG hd.1 g1) (cwV 1 hC.1.2.2.2.2 gX4_visit_X4_isAtEnd rfl rfl rfl (by decide +kernel) ⟨Nat.le_of_ble_eq_true rfl, Nat.le_of_ble_eq_true rfl⟩) rfl rfl (Nat.le_of_ble_eq_true rfl) dX4_visit_100 ⟨Nat.le_of_ble_eq_true rfl, Nat.le_of_ble_eq_true rfl⟩ (fun r268 er269 => ?_)
                  subst er269
                  refine ax_if_eq (tgt := 115) hC dX4_visit_103 (by decide) (fun c270 => ?_) (fun c270 => ?_)
                  · exact absurd c270 (by decide)
                  · refine ax_aload_n hC 3 dX4_visit_106 rfl rfl ?_
                    refine ax_iconst (v := 1) hC dX4_visit_107 (by decide) ?_
                    have hX271 : MtX z h255 mt cm aF aG nr TF TG W a b l0 l1 := ⟨_, _, _, _, _, _, _, _, _, _, q0_264, q1_264, q2_264, q3_264, q4_264, q5_264, q6_264, q7_264, hfo_264, hov_264, hk0_264, hk1_264, hta_264, htb_264, hz0_264, hz1_264, hpl_264, hft_264⟩
                    refine ax_callVp (st := []) hC [.int 1] q0_264 rfl (c_X4_isAtEnd_1 l D z B lo _ h255 mt cm aF aG nr TF TG W a b l0 l1 _ _ hX271 hp_262 hp_263 hwF hwG hM hok hmF hmG hd.2 g0) (cwV 1 hC.1.2.2.2.2 gX4_visit_X4_isAtEnd rfl rfl rfl (by decide +kernel) ⟨Nat.le_of_ble_eq_true rfl, Nat.le_of_ble_eq_true rfl⟩) rfl rfl (Nat.le_of_ble_eq_true rfl) dX4_visit_108 ⟨Nat.le_of_ble_eq_true rfl, Nat.le_of_ble_eq_true rfl⟩ (fun r272 er273 => ?_)
                    subst er273
                    refine ax_if_eq (tgt := 115) hC dX4_visit_111 (by decide) (fun c274 => ?_) (fun c274 => ?_)
                    · exact absurd c274 (by decide)
                    · refine ax_vret hC hr hlocks dX4_visit_114 ?_
                      exact ⟨rfl, fun q hq => ((fr258 q (by omega)).trans ((fr230 q (by omega)).trans ((fr160 q (by omega)).trans ((fr26 q (by omega)).trans (f9 q (by omega)))))), hS261, ⟨_, _, _, _, _, _, _, _, _, _, q0_264, q1_264, q2_264, q3_264, q4_264, q5_264, q6_264, q7_264, hfo_264, hov_264, hk0_264, hk1_264, hta_264, htb_264, hz0_264, hz1_264, hpl_264, hft_264⟩⟩
                · exact absurd c266 (by decide)
          · exact absurd c223 (by decide)
        · exact absurd c222 (by decide)

abbrev rmX4_explore : Room := { frames := 5, cells := 0, slots := 0, locals := 141 }
set_option maxRecDepth 100000 in
set_option maxHeartbeats 4000000 in
theorem c_X4_explore (l : Launch) (D : va_G) (z : Nat → ClassId) (B : Heap) (lo hi : Nat) (h : Nat → Option va_E) (mt cm aF aG : Nat) (nr nr0 ov0 : Int32) (t0 t1 : Option Nat) (TF TG : PT) (W : Nat → Nat → Prop) (ndF ndG : Int32) (hX : MtC z h mt cm t0 t1 nr0 ov0) (hF : PrC z h aF ndF TF) (hG : PrC z h aG ndG TG) (hwF : wfP TF) (hwG : wfP TG) (hmF : mt + 8 ≤ aF) (hmG : mt + 8 ≤ aG) (hM : MeetW TF TG W) (hW : W (sN TF 0) (sN TG 0)) (hS : CmpS z h cm) (hcm : cm + 3 ≤ mt) (hn1 : nr = 1 ∨ nr = 2) : Met l yX4_explore wsX4_explore rmX4_explore (KP D vwCl B lo hi h (ty6 z) [.ref mt, .ref aF, .ref aG, .int nr]) (KQi D vwCl B lo (ty6 z) (fun r hi' h' => hi' = hi ∧ (∀ q, (q < cm ∨ (cm + 3 ≤ q ∧ q < mt) ∨ mt + 8 ≤ q) → h' q = h q) ∧ CmpS z h' cm ∧ ∃ ov, MtC z h' mt cm (some aF) (some aG) nr ov ∧ r = (if ov = 0 then 1 else 0) ∧ (t0 = some aF → t1 = some aG → nr0 = nr → ov = ov0))) 0 0 (fun q => lo ≤ q) := by
  obtain ⟨fo, jams, clashes, fewest, most, pl, mv, sl, ft, tk, ats, lns, q0, q1, q2, q3, q4, q5, q6, q7, hk0, hk1, hov, hcl⟩ := id hX
  have hwF1 := hwF.1
  have hwG1 := hwG.1
  have hokB : PlaceOK TF TG W (sN TF 0) (sN TG 0) 0 0 := Or.inl ⟨rfl, rfl, hW⟩
  refine ax_met (by decide) rfl (Nat.le_of_ble_eq_true rfl) (L0 := [(0, .ref mt), (1, .ref aF), (2, .ref aG), (3, .int nr)]) rfl ?_
  intro p e s m args below meth c hC hr hlocks hnm hargs
  have iX4 : ∀ w ∈ u_ws RX4 TX4 15, w ∈ wsX4_explore := by decide +kernel
  have LP : ∀ (n k : Nat) (hX1 : Nat → Option va_E) (a b l0 l1 : Nat), k + n = 3000 → ¬ (t0 = some aF ∧ t1 = some aG ∧ nr0 = nr) → (∀ q, (q < cm ∨ (cm + 3 ≤ q ∧ q < mt) ∨ mt + 8 ≤ q) → hX1 q = h q) → CmpS z hX1 cm → MtX z hX1 mt cm aF aG nr TF TG W a b l0 l1 → Gx p l e rmX4_explore s m args below meth c D vwCl B lo 5 (MQ below (KQi D vwCl B lo (ty6 z) (fun r hi' h' => hi' = hi ∧ (∀ q, (q < cm ∨ (cm + 3 ≤ q ∧ q < mt) ∨ mt + 8 ≤ q) → h' q = h q) ∧ CmpS z h' cm ∧ ∃ ov, MtC z h' mt cm (some aF) (some aG) nr ov ∧ r = (if ov = 0 then 1 else 0) ∧ (t0 = some aF → t1 = some aG → nr0 = nr → ov = ov0))) args s 0 0 (fun q => lo ≤ q)) hi hX1 0 0 [(4, .int (nI k)), (3, .int nr), (2, .ref aG), (1, .ref aF), (0, .ref mt)] 56 [] := by
    intro n
    induction n with
    | zero =>
      intro k hX1 a b l0 l1 hkn hne hfr hSX hXX
      obtain ⟨foy, mosty, overy, ply, mvy, sly, fty, tky, atsy, lnsy, q0y, q1y, q2y, q3y, q4y, q5y, q6y, q7y, hfoy, hovy, hk0y, hk1y, htay, htby, hz0y, hz1y, hply, hfty⟩ := id hXX
      have hFX : PrC z hX1 aF _ TF := hF.kept (fun q _ _ => hfr q (by omega))
      have hGX : PrC z hX1 aG _ TG := hG.kept (fun q _ _ => hfr q (by omega))
      refine ax_iload hC 0 dX4_explore_56 rfl ?_
      refine ax_aload_n hC 4 dX4_explore_58 rfl rfl ?_
      refine ax_getf (v := .int (nI foy)) hC q0y iX4 rfl 0 (by decide) (by decide +kernel) rfl rfl dX4_explore_59 ?_
      refine ax_icmp_ge (tgt := 108) hC dX4_explore_62 (by decide) (fun c1001 => ?_) (fun c1001 => ?_)
      · refine ax_aload_n hC 4 dX4_explore_108 rfl rfl ?_
        refine ax_getf (v := .int overy) hC q0y iX4 rfl 14 (by decide) (by decide +kernel) rfl rfl dX4_explore_109 ?_
        refine ax_if_ne (tgt := 119) hC dX4_explore_112 (by decide) (fun c1002 => ?_) (fun c1002 => ?_)
        · refine ax_iconst (v := 0) hC dX4_explore_119 (by decide) ?_
          refine ax_zret hC hr hlocks dX4_explore_120 (by decide) ?_
          exact ⟨rfl, fun q hq => (hfr q hq), hSX, overy, ⟨_, _, _, _, _, _, _, _, _, _, _, _, q0y, q1y, q2y, q3y, q4y, q5y, q6y, q7y, hk0y, hk1y, hovy, Or.inr ⟨rfl, rfl, rfl⟩⟩, (if_neg c1002).symm, fun u9 v9 w9 => absurd ⟨u9, v9, w9⟩ hne⟩
        · refine ax_iconst (v := 1) hC dX4_explore_115 (by decide) ?_
          refine ax_goto (tgt := 120) hC dX4_explore_116 (by decide) ?_
          refine ax_zret hC hr hlocks dX4_explore_120 (by decide) ?_
          exact ⟨rfl, fun q hq => (hfr q hq), hSX, overy, ⟨_, _, _, _, _, _, _, _, _, _, _, _, q0y, q1y, q2y, q3y, q4y, q5y, q6y, q7y, hk0y, hk1y, hovy, Or.inr ⟨rfl, rfl, rfl⟩⟩, (if_pos c1002).symm, fun u9 v9 w9 => absurd ⟨u9, v9, w9⟩ hne⟩
      · refine ax_iload hC 0 dX4_explore_65 rfl ?_
        refine ax_sipush (v := 3000) hC dX4_explore_67 (by decide) ?_
        refine ax_icmp_ge (tgt := 108) hC dX4_explore_70 (by decide) (fun c1003 => ?_) (fun c1003 => ?_)
        · refine ax_aload_n hC 4 dX4_explore_108 rfl rfl ?_
          refine ax_getf (v := .int overy) hC q0y iX4 rfl 14 (by decide) (by decide +kernel) rfl rfl dX4_explore_109 ?_
          refine ax_if_ne (tgt := 119) hC dX4_explore_112 (by decide) (fun c1004 => ?_) (fun c1004 => ?_)
          · refine ax_iconst (v := 0) hC dX4_explore_119 (by decide) ?_
            refine ax_zret hC hr hlocks dX4_explore_120 (by decide) ?_
            exact ⟨rfl, fun q hq => (hfr q hq), hSX, overy, ⟨_, _, _, _, _, _, _, _, _, _, _, _, q0y, q1y, q2y, q3y, q4y, q5y, q6y, q7y, hk0y, hk1y, hovy, Or.inr ⟨rfl, rfl, rfl⟩⟩, (if_neg c1004).symm, fun u9 v9 w9 => absurd ⟨u9, v9, w9⟩ hne⟩
          · refine ax_iconst (v := 1) hC dX4_explore_115 (by decide) ?_
            refine ax_goto (tgt := 120) hC dX4_explore_116 (by decide) ?_
            refine ax_zret hC hr hlocks dX4_explore_120 (by decide) ?_
            exact ⟨rfl, fun q hq => (hfr q hq), hSX, overy, ⟨_, _, _, _, _, _, _, _, _, _, _, _, q0y, q1y, q2y, q3y, q4y, q5y, q6y, q7y, hk0y, hk1y, hovy, Or.inr ⟨rfl, rfl, rfl⟩⟩, (if_pos c1004).symm, fun u9 v9 w9 => absurd ⟨u9, v9, w9⟩ hne⟩
        · exact absurd (by rw [L_leN (k := 3000) (by decide) (by omega)]; omega) c1003
    | succ n ih =>
      intro k hX1 a b l0 l1 hkn hne hfr hSX hXX
      obtain ⟨foy, mosty, overy, ply, mvy, sly, fty, tky, atsy, lnsy, q0y, q1y, q2y, q3y, q4y, q5y, q6y, q7y, hfoy, hovy, hk0y, hk1y, htay, htby, hz0y, hz1y, hply, hfty⟩ := id hXX
      have hFX : PrC z hX1 aF _ TF := hF.kept (fun q _ _ => hfr q (by omega))
      have hGX : PrC z hX1 aG _ TG := hG.kept (fun q _ _ => hfr q (by omega))
      refine ax_iload hC 0 dX4_explore_56 rfl ?_
      refine ax_aload_n hC 4 dX4_explore_58 rfl rfl ?_
      refine ax_getf (v := .int (nI foy)) hC q0y iX4 rfl 0 (by decide) (by decide +kernel) rfl rfl dX4_explore_59 ?_
      refine ax_icmp_ge (tgt := 108) hC dX4_explore_62 (by decide) (fun c2001 => ?_) (fun c2001 => ?_)
      · refine ax_aload_n hC 4 dX4_explore_108 rfl rfl ?_
        refine ax_getf (v := .int overy) hC q0y iX4 rfl 14 (by decide) (by decide +kernel) rfl rfl dX4_explore_109 ?_
        refine ax_if_ne (tgt := 119) hC dX4_explore_112 (by decide) (fun c2002 => ?_) (fun c2002 => ?_)
        · refine ax_iconst (v := 0) hC dX4_explore_119 (by decide) ?_
          refine ax_zret hC hr hlocks dX4_explore_120 (by decide) ?_
          exact ⟨rfl, fun q hq => (hfr q hq), hSX, overy, ⟨_, _, _, _, _, _, _, _, _, _, _, _, q0y, q1y, q2y, q3y, q4y, q5y, q6y, q7y, hk0y, hk1y, hovy, Or.inr ⟨rfl, rfl, rfl⟩⟩, (if_neg c2002).symm, fun u9 v9 w9 => absurd ⟨u9, v9, w9⟩ hne⟩
        · refine ax_iconst (v := 1) hC dX4_explore_115 (by decide) ?_
          refine ax_goto (tgt := 120) hC dX4_explore_116 (by decide) ?_
          refine ax_zret hC hr hlocks dX4_explore_120 (by decide) ?_
          exact ⟨rfl, fun q hq => (hfr q hq), hSX, overy, ⟨_, _, _, _, _, _, _, _, _, _, _, _, q0y, q1y, q2y, q3y, q4y, q5y, q6y, q7y, hk0y, hk1y, hovy, Or.inr ⟨rfl, rfl, rfl⟩⟩, (if_pos c2002).symm, fun u9 v9 w9 => absurd ⟨u9, v9, w9⟩ hne⟩
      · refine ax_iload hC 0 dX4_explore_65 rfl ?_
        refine ax_sipush (v := 3000) hC dX4_explore_67 (by decide) ?_
        refine ax_icmp_ge (tgt := 108) hC dX4_explore_70 (by decide) (fun c2003 => ?_) (fun c2003 => ?_)
        · exact absurd c2003 (by rw [L_leN (k := 3000) (by decide) (by omega)]; omega)
        · refine ax_aload_n hC 4 dX4_explore_73 rfl rfl ?_
          refine ax_getf (v := .int overy) hC q0y iX4 rfl 14 (by decide) (by decide +kernel) rfl rfl dX4_explore_74 ?_
          refine ax_if_ne (tgt := 108) hC dX4_explore_77 (by decide) (fun c2004 => ?_) (fun c2004 => ?_)
          · refine ax_aload_n hC 4 dX4_explore_108 rfl rfl ?_
            refine ax_getf (v := .int overy) hC q0y iX4 rfl 14 (by decide) (by decide +kernel) rfl rfl dX4_explore_109 ?_
            refine ax_if_ne (tgt := 119) hC dX4_explore_112 (by decide) (fun c2005 => ?_) (fun c2005 => ?_)
            · refine ax_iconst (v := 0) hC dX4_explore_119 (by decide) ?_
              refine ax_zret hC hr hlocks dX4_explore_120 (by decide) ?_
              exact ⟨rfl, fun q hq => (hfr q hq), hSX, overy, ⟨_, _, _, _, _, _, _, _, _, _, _, _, q0y, q1y, q2y, q3y, q4y, q5y, q6y, q7y, hk0y, hk1y, hovy, Or.inr ⟨rfl, rfl, rfl⟩⟩, (if_neg c2004).symm, fun u9 v9 w9 => absurd ⟨u9, v9, w9⟩ hne⟩
            · exact absurd c2005 c2004
          · have hkf : k < foy := Decidable.byContradiction (fun q9 => c2001 (nI_le (by omega) (by omega)))
            obtain ⟨a2, b2, x0, x1, hpk, hok2⟩ := hply k hkf
            obtain ⟨ha2, hb2, hc2, hd2, -, -⟩ := PlaceOK.bnd hwF hwG hM hok2
            refine ax_aload_n hC 4 dX4_explore_80 rfl rfl ?_
            refine ax_aload_n hC 4 dX4_explore_81 rfl rfl ?_
            refine ax_getf (v := .ref (mt + 1)) hC q0y iX4 rfl 6 (by decide) (by decide +kernel) rfl rfl dX4_explore_82 ?_
            refine ax_iload hC 0 dX4_explore_85 rfl ?_
            have b2006 : vp_in (nI k) 3000 := vp_in_nI (by omega) (by omega)
            refine ax_lald hC q1y 2 rfl b2006 dX4_explore_87 ?_
            refine ax_eql (y := ply k) (by rw [nI_clamp (by omega)]) ?_
            refine ax_eql (y := Int64.ofNat (pkN a2 b2 x0 x1)) (hpk) ?_
            refine ax_callVv (st := []) hC [.long (Int64.ofNat (pkN a2 b2 x0 x1))] q0y rfl (c_X4_unpack l D z B lo _ hX1 mt cm aF aG nr TF TG W a2 b2 x0 x1 a b l0 l1 hXX (by omega) (by omega) hc2 hd2) (cwV 1 hC.1.2.2.2.2 gX4_explore_X4_unpack rfl rfl rfl (by decide +kernel) ⟨Nat.le_of_ble_eq_true rfl, Nat.le_of_ble_eq_true rfl⟩) rfl rfl (Nat.le_of_ble_eq_true rfl) dX4_explore_88 ⟨Nat.le_of_ble_eq_true rfl, Nat.le_of_ble_eq_true rfl⟩ (fun hi2007 h2008 hp2009 => ?_)
            obtain ⟨ei2010, fr2011, hX2012⟩ := hp2009
            replace ei2010 := ei2010.symm
            subst ei2010
            have hp_2013 : PrC z h2008 aF _ TF := hFX.kept (fun q _ _ => fr2011 q (by omega))
            have hp_2014 : PrC z h2008 aG _ TG := hGX.kept (fun q _ _ => fr2011 q (by omega))
            obtain ⟨fo_2015, most_2015, over_2015, pl_2015, mv_2015, sl_2015, ft_2015, tk_2015, ats_2015, lns_2015, q0_2015, q1_2015, q2_2015, q3_2015, q4_2015, q5_2015, q6_2015, q7_2015, hfo_2015, hov_2015, hk0_2015, hk1_2015, hta_2015, htb_2015, hz0_2015, hz1_2015, hpl_2015, hft_2015⟩ := id hX2012
            have hS2016 := CmpS.kept (h' := h2008) hSX (fun q _ _ => fr2011 q (by omega))
            refine ax_aload_n hC 4 dX4_explore_91 rfl rfl ?_
            refine ax_aload_n hC 4 dX4_explore_92 rfl rfl ?_
            refine ax_getf (v := .ref (mt + 2)) hC q0_2015 iX4 rfl 7 (by decide) (by decide +kernel) rfl rfl dX4_explore_93 ?_
            refine ax_iload hC 0 dX4_explore_96 rfl ?_
            have b2017 : vp_in (nI k) 3000 := vp_in_nI (by omega) (by omega)
            refine ax_iald hC q2_2015 1 rfl b2017 dX4_explore_98 ?_
            refine ax_eqi (y := mv_2015 k) (by rw [nI_clamp (by omega)]) ?_
            refine ax_callVv (st := []) hC [.int (mv_2015 k)] q0_2015 rfl (c_X4_visit l D z B lo _ h2008 mt cm aF aG nr TF TG W a2 b2 x0 x1 _ _ (mv_2015 k) hX2012 hp_2013 hp_2014 hwF hwG hM hok2 hmF hmG hS2016 hcm hn1) (cwV 1 hC.1.2.2.2.2 gX4_explore_X4_visit rfl rfl rfl (by decide +kernel) ⟨Nat.le_of_ble_eq_true rfl, Nat.le_of_ble_eq_true rfl⟩) rfl rfl (Nat.le_of_ble_eq_true rfl) dX4_explore_99 ⟨Nat.le_of_ble_eq_true rfl, Nat.le_of_ble_eq_true rfl⟩ (fun hi2018 h2019 hp2020 => ?_)
            obtain ⟨ei2021, fr2022, hS2023, hX2024⟩ := hp2020
            replace ei2021 := ei2021.symm
            subst ei2021
            have hp_2025 : PrC z h2019 aF _ TF := hp_2013.kept (fun q _ _ => fr2022 q (by omega))
            have hp_2026 : PrC z h2019 aG _ TG := hp_2014.kept (fun q _ _ => fr2022 q (by omega))
            obtain ⟨fo_2027, most_2027, over_2027, pl_2027, mv_2027, sl_2027, ft_2027, tk_2027, ats_2027, lns_2027, q0_2027, q1_2027, q2_2027, q3_2027, q4_2027, q5_2027, q6_2027, q7_2027, hfo_2027, hov_2027, hk0_2027, hk1_2027, hta_2027, htb_2027, hz0_2027, hz1_2027, hpl_2027, hft_2027⟩ := id hX2024
            refine ax_iinc (v := (nI k) + 1) hC 0 [(4, .int ((nI k) + 1)), (3, .int nr), (2, .ref aG), (1, .ref aF), (0, .ref mt)] dX4_explore_102 rfl rfl (by decide) rfl ?_
            refine ax_goto (tgt := 56) hC dX4_explore_105 (by decide) ?_
            refine ax_locals [0, 1, 2, 3, 4] (L' := [(4, .int ((nI k) + 1)), (3, .int nr), (2, .ref aG), (1, .ref aF), (0, .ref mt)]) rfl ?_
            rw [show (nI k + 1) = nI (k + 1) from nI_1 k]
            exact ih (k + 1) h2019 _ _ _ _ (by omega) hne (fun q hq => ((fr2022 q (by omega)).trans ((fr2011 q (by omega)).trans (hfr q hq)))) hS2023 hX2024
  have LP4 : ¬ (t0 = some aF ∧ t1 = some aG ∧ nr0 = nr) → Gx p l e rmX4_explore s m args below meth c D vwCl B lo 5 (MQ below (KQi D vwCl B lo (ty6 z) (fun r hi' h' => hi' = hi ∧ (∀ q, (q < cm ∨ (cm + 3 ≤ q ∧ q < mt) ∨ mt + 8 ≤ q) → h' q = h q) ∧ CmpS z h' cm ∧ ∃ ov, MtC z h' mt cm (some aF) (some aG) nr ov ∧ r = (if ov = 0 then 1 else 0) ∧ (t0 = some aF → t1 = some aG → nr0 = nr → ov = ov0))) args s 0 0 (fun q => lo ≤ q)) hi h 0 0 [(3, .int nr), (2, .ref aG), (1, .ref aF), (0, .ref mt)] 41 [] := by
    intro hne
    refine ax_aload_n hC 3 dX4_explore_41 rfl rfl ?_
    refine ax_aload_n hC 2 dX4_explore_42 rfl rfl ?_
    refine ax_aload_n hC 1 dX4_explore_43 rfl rfl ?_
    refine ax_iload_n hC 0 dX4_explore_44 rfl rfl ?_
    refine ax_callVv (st := []) hC [.ref aF, .ref aG, .int nr] q0 rfl (c_X4_begin l D z B lo _ h mt cm aF aG nr nr0 ov0 t0 t1 TF TG W _ _ hX hF hG hwF hwG hmF hmG) (cwV 3 hC.1.2.2.2.2 gX4_explore_X4_begin rfl rfl rfl (by decide +kernel) ⟨Nat.le_of_ble_eq_true rfl, Nat.le_of_ble_eq_true rfl⟩) rfl rfl (Nat.le_of_ble_eq_true rfl) dX4_explore_45 ⟨Nat.le_of_ble_eq_true rfl, Nat.le_of_ble_eq_true rfl⟩ (fun hi3001 h3002 hp3003 => ?_)
    obtain ⟨ei3004, fr3005, hX3006⟩ := hp3003
    replace ei3004 := ei3004.symm
    subst ei3004
    have hp_3007 : PrC z h3002 aF _ TF := hF.kept (fun q _ _ => fr3005 q (by omega))
    have hp_3008 : PrC z h3002 aG _ TG := hG.kept (fun q _ _ => fr3005 q (by omega))
    obtain ⟨fo_3009, most_3009, over_3009, pl_3009, mv_3009, sl_3009, ft_3009, tk_3009, ats_3009, lns_3009, q0_3009, q1_3009, q2_3009, q3_3009, q4_3009, q5_3009, q6_3009, q7_3009, hfo_3009, hov_3009, hk0_3009, hk1_3009, hta_3009, htb_3009, hz0_3009, hz1_3009, hpl_3009, hft_3009⟩ := id hX3006
    have hS3010 := CmpS.kept (h' := h3002) hS (fun q _ _ => fr3005 q (by omega))
    refine ax_aload_n hC 3 dX4_explore_48 rfl rfl ?_
    refine ax_iconst (v := 0) hC dX4_explore_49 (by decide) ?_
    refine ax_callVv (st := []) hC [.int 0] q0_3009 rfl (c_X4_reach l D z B lo _ h3002 mt cm aF aG nr TF TG W (sN TF 0) (sN TG 0) 0 0 0 hX3006 hokB (Nat.lt_of_lt_of_le (sN_eq hwF 0).2 (by omega)) (Nat.lt_of_lt_of_le (sN_eq hwG 0).2 (by omega)) (by decide) (by decide)) (cwV 1 hC.1.2.2.2.2 gX4_explore_X4_reach rfl rfl rfl (by decide +kernel) ⟨Nat.le_of_ble_eq_true rfl, Nat.le_of_ble_eq_true rfl⟩) rfl rfl (Nat.le_of_ble_eq_true rfl) dX4_explore_50 ⟨Nat.le_of_ble_eq_true rfl, Nat.le_of_ble_eq_true rfl⟩ (fun hi3011 h3012 hp3013 => ?_)
    obtain ⟨ei3014, fr3015, hX3016⟩ := hp3013
    replace ei3014 := ei3014.symm
    subst ei3014
    have hp_3017 : PrC z h3012 aF _ TF := hp_3007.kept (fun q _ _ => fr3015 q (by omega))
    have hp_3018 : PrC z h3012 aG _ TG := hp_3008.kept (fun q _ _ => fr3015 q (by omega))
    obtain ⟨fo_3019, most_3019, over_3019, pl_3019, mv_3019, sl_3019, ft_3019, tk_3019, ats_3019, lns_3019, q0_3019, q1_3019, q2_3019, q3_3019, q4_3019, q5_3019, q6_3019, q7_3019, hfo_3019, hov_3019, hk0_3019, hk1_3019, hta_3019, htb_3019, hz0_3019, hz1_3019, hpl_3019, hft_3019⟩ := id hX3016
    have hS3020 := CmpS.kept (h' := h3012) hS3010 (fun q _ _ => fr3015 q (by omega))
    refine ax_iconst (v := 0) hC dX4_explore_53 (by decide) ?_
    refine ax_istore hC [(4, .int 0), (3, .int nr), (2, .ref aG), (1, .ref aF), (0, .ref mt)] dX4_explore_54 (by decide) rfl ?_
    refine ax_locals [0, 1, 2, 3, 4] (L' := [(4, .int 0), (3, .int nr), (2, .ref aG), (1, .ref aF), (0, .ref mt)]) rfl ?_
    exact LP 3000 0 h3012 _ _ _ _ (by omega) hne (fun q hq => ((fr3015 q (by omega)).trans (fr3005 q (by omega)))) hS3020 hX3016
  refine ax_aload_n hC 0 dX4_explore_0 rfl rfl ?_
  refine ax_getf (v := .ref (mt + 5)) hC q0 iX4 rfl 10 (by decide) (by decide +kernel) rfl rfl dX4_explore_1 ?_
  refine ax_iconst (v := 0) hC dX4_explore_4 (by decide) ?_
  have b1 : vp_in 0 2 := vp_in_iff.mpr (by decide)
  refine ax_aald hC q5 5 rfl b1 dX4_explore_5 ?_
  refine ax_eqq (y := t0) (hk0) ?_
  refine ax_aload_n hC 1 dX4_explore_6 rfl rfl ?_
  refine ax_acmp_ne (rx := t0) (ry := some aF) (tgt := 41) hC dX4_explore_7 (by decide) (fun c2 => ?_) (fun c2 => ?_)
  · refine ax_locals [3, 2, 1, 0] (L' := [(3, .int nr), (2, .ref aG), (1, .ref aF), (0, .ref mt)]) rfl ?_
    exact LP4 (fun q9 => c2 q9.1)
  · refine ax_aload_n hC 0 dX4_explore_10 rfl rfl ?_
    refine ax_getf (v := .ref (mt + 5)) hC q0 iX4 rfl 10 (by decide) (by decide +kernel) rfl rfl dX4_explore_11 ?_
    refine ax_iconst (v := 1) hC dX4_explore_14 (by decide) ?_
    have b3 : vp_in 1 2 := vp_in_iff.mpr (by decide)
    refine ax_aald hC q5 5 rfl b3 dX4_explore_15 ?_
    refine ax_eqq (y := t1) (hk1) ?_
    refine ax_aload_n hC 2 dX4_explore_16 rfl rfl ?_
    refine ax_acmp_ne (rx := t1) (ry := some aG) (tgt := 41) hC dX4_explore_17 (by decide) (fun c4 => ?_) (fun c4 => ?_)
    · refine ax_locals [3, 2, 1, 0] (L' := [(3, .int nr), (2, .ref aG), (1, .ref aF), (0, .ref mt)]) rfl ?_
      exact LP4 (fun q9 => c4 q9.2.1)
    · refine ax_aload_n hC 0 dX4_explore_20 rfl rfl ?_
      refine ax_getf (v := .int nr0) hC q0 iX4 rfl 13 (by decide) (by decide +kernel) rfl rfl dX4_explore_21 ?_
      refine ax_iload_n hC 3 dX4_explore_24 rfl rfl ?_
      refine ax_icmp_ne (tgt := 41) hC dX4_explore_25 (by decide) (fun c5 => ?_) (fun c5 => ?_)
      · refine ax_locals [3, 2, 1, 0] (L' := [(3, .int nr), (2, .ref aG), (1, .ref aF), (0, .ref mt)]) rfl ?_
        exact LP4 (fun q9 => c5 q9.2.2)
      · refine ax_aload_n hC 0 dX4_explore_28 rfl rfl ?_
        refine ax_getf (v := .int ov0) hC q0 iX4 rfl 14 (by decide) (by decide +kernel) rfl rfl dX4_explore_29 ?_
        refine ax_if_ne (tgt := 39) hC dX4_explore_32 (by decide) (fun c6 => ?_) (fun c6 => ?_)
        · refine ax_iconst (v := 0) hC dX4_explore_39 (by decide) ?_
          refine ax_zret hC hr hlocks dX4_explore_40 (by decide) ?_
          subst c5
          exact ⟨rfl, fun q hq => rfl, hS, ov0, ⟨_, _, _, _, _, _, _, _, _, _, _, _, q0, q1, q2, q3, q4, q5, q6, q7, hk0.trans c2, hk1.trans c4, hov, Or.inr (hcl.resolve_left (by rw [c2]; exact Option.some_ne_none _))⟩, (if_neg c6).symm, fun _ _ _ => rfl⟩
        · refine ax_iconst (v := 1) hC dX4_explore_35 (by decide) ?_
          refine ax_goto (tgt := 40) hC dX4_explore_36 (by decide) ?_
          refine ax_zret hC hr hlocks dX4_explore_40 (by decide) ?_
          subst c5
          exact ⟨rfl, fun q hq => rfl, hS, ov0, ⟨_, _, _, _, _, _, _, _, _, _, _, _, q0, q1, q2, q3, q4, q5, q6, q7, hk0.trans c2, hk1.trans c4, hov, Or.inr (hcl.resolve_left (by rw [c2]; exact Option.some_ne_none _))⟩, (if_pos c6).symm, fun _ _ _ => rfl⟩
