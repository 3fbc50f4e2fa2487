def Obj0 (z : Nat → ClassId) (h : Nat → Option va_E) (o : Nat) : Prop := ObS h o 0 0 ∧ h (o + 1) = some (.inl (z 5, 16, .inr (.inr (.inr (.inr (fun _ => none)))))) ∧ h (o + 2) = some (.inl (z 1, 200, .inl (fun _ => 0))) ∧ RdI z h (o + 3) ∧ CmpS z h (o + 23) ∧ HinS z h (o + 26) (o + 23) ∧ MtC z h (o + 32) (o + 23) none none 0 0 ∧ h (o + 40) = some (.inl (z 1, 60, .inl (fun _ => 0))) ∧ RmS z h (o + 41) 0 2 0 0 0 0 0 0 ∧ BlmS z h (o + 44) 0 0 0 0 0 (fun _ => 0) ∧ Ends0 z h (o + 46) 16
abbrev rmX11_init : Room := { frames := 3, cells := 146, slots := 45698, locals := 81 }
set_option maxRecDepth 100000 in
set_option maxHeartbeats 4000000 in
theorem c_X11_init (l : Launch) (D : va_G) (z : Nat → ClassId) (B : Heap) (lo hi : Nat) (h : Nat → Option va_E) (o : Nat) (ho : h o = some (.inr (13, [.null, .null, .int 0, .null, .null, .null, .null, .null, .null, .null, .null, .null, .int 0]))) (hhi : hi = o + 1) : Met l yX11_init wsX11_init rmX11_init (KP D vwCl B lo hi h (ty6 z) [.ref o]) (KQv D vwCl B lo (ty6 z) (fun hi' h' => hi' = o + 147 ∧ (∀ q, q < o → h' q = h q) ∧ Obj0 z h' o)) 146 45698 (fun q => lo ≤ q) := by
  subst hhi
  refine ax_met (by decide) rfl (Nat.le_of_ble_eq_true rfl) (L0 := [(0, .ref o)]) rfl ?_
  intro p e s m args below meth c hC hr hlocks hnm hargs
  have iX1 : ∀ w ∈ u_ws RX1 TX1 3, w ∈ wsX11_init := by decide +kernel
  have iX10 : ∀ w ∈ u_ws RX10 TX10 2, w ∈ wsX11_init := by decide +kernel
  have iX11 : ∀ w ∈ u_ws RX11 TX11 13, w ∈ wsX11_init := by decide +kernel
  have iX3 : ∀ w ∈ u_ws RX3 TX3 8, w ∈ wsX11_init := by decide +kernel
  have iX4 : ∀ w ∈ u_ws RX4 TX4 15, w ∈ wsX11_init := by decide +kernel
  have iX6 : ∀ w ∈ u_ws RX6 TX6 4, w ∈ wsX11_init := by decide +kernel
  have iX8 : ∀ w ∈ u_ws RX8 TX8 5, w ∈ wsX11_init := by decide +kernel
  have iX9 : ∀ w ∈ u_ws RX9 TX9 11, w ∈ wsX11_init := by decide +kernel
  refine ax_aload_n hC 0 dX11_init_0 rfl rfl ?_
  refine ax_objInit hC (by decide +kernel) (by decide +kernel) (by decide +kernel) dX11_init_1 (Nat.le_of_ble_eq_true rfl) (Nat.le_of_ble_eq_true rfl) ?_
  refine ax_aload_n hC 0 dX11_init_4 rfl rfl ?_
  refine ax_bipush (v := 16) hC dX11_init_5 (by decide) ?_
  refine ax_newq (C := RX7) (N' := 16) hC 5 rfl (by decide +kernel) hC.2.2.2.2.1 (by decide) (by decide) (Nat.le_of_ble_eq_true rfl) (Nat.le_of_ble_eq_true rfl) (Nat.le_of_ble_eq_true rfl) dX11_init_7 (fun h1 e2 f3 => ?_)
  have e2 : h1 (o + 1) = some (.inl (z 5, 16, .inr (.inr (.inr (.inr (fun _ => none)))))) := e2
  have x4 : h1 o = some (.inr (13, [.null, .null, .int 0, .null, .null, .null, .null, .null, .null, .null, .null, .null, .int 0])) := (f3 _ (by omega)).trans ho
  refine ax_putF (v := .ref (o + 1)) (ty := .array (.object "SessionEnds$Protocol")) hC tyX11 x4 iX11 tyX11_ok nmX11 rfl 0 (by decide) (by decide +kernel) rfl rfl hnm rfl (by decide +kernel) (rfl) rfl (Nat.le_of_ble_eq_true rfl) dX11_init_10 (fun h5 e6 f7 => ?_)
  have e6 : h5 o = some (.inr (13, [.ref (o + 1), .null, .int 0, .null, .null, .null, .null, .null, .null, .null, .null, .null, .int 0])) := e6
  have x8 : h5 (o + 1) = some (.inl (z 5, 16, .inr (.inr (.inr (.inr (fun _ => none)))))) := (f7 _ (by omega)).trans e2
  refine ax_aload_n hC 0 dX11_init_13 rfl rfl ?_
  refine ax_sipush (v := 200) hC dX11_init_14 (by decide) ?_
  refine ax_newa (a0 := (200, .inl (fun _ => 0))) (N' := 200) hC 1 rfl (by decide +kernel) rfl (fun C q => by cases q) (fun cA => by first | rfl | simp [vp_cell, arrV, defaultValue]) (by decide) (by decide) (Nat.le_of_ble_eq_true rfl) (Nat.le_of_ble_eq_true rfl) (Nat.le_of_ble_eq_true rfl) dX11_init_17 (fun h9 e10 f11 => ?_)
  have e10 : h9 (o + 1 + 1) = some (.inl (z 1, 200, .inl (fun _ => 0))) := e10
  have x12 : h9 (o + 1) = some (.inl (z 5, 16, .inr (.inr (.inr (.inr (fun _ => none)))))) := (f11 _ (by omega)).trans x8
  have x13 : h9 o = some (.inr (13, [.ref (o + 1), .null, .int 0, .null, .null, .null, .null, .null, .null, .null, .null, .null, .int 0])) := (f11 _ (by omega)).trans e6
  refine ax_putF (v := .ref (o + 1 + 1)) (ty := .array .int) hC tyX11 x13 iX11 tyX11_ok nmX11 rfl 1 (by decide) (by decide +kernel) rfl rfl hnm rfl (by decide +kernel) (rfl) rfl (Nat.le_of_ble_eq_true rfl) dX11_init_19 (fun h14 e15 f16 => ?_)
  have e15 : h14 o = some (.inr (13, [.ref (o + 1), .ref (o + 1 + 1), .int 0, .null, .null, .null, .null, .null, .null, .null, .null, .null, .int 0])) := e15
  have x17 : h14 (o + 1) = some (.inl (z 5, 16, .inr (.inr (.inr (.inr (fun _ => none)))))) := (f16 _ (by omega)).trans x12
  have x18 : h14 (o + 1 + 1) = some (.inl (z 1, 200, .inl (fun _ => 0))) := (f16 _ (by omega)).trans e10
  refine ax_aload_n hC 0 dX11_init_22 rfl rfl ?_
  refine ax_new (C := RX8) (T := TX8) (N := 5) (ci := 10) (fs := [.null, .null, .null, .int 0, .int 0]) hC tyX8 iX8 tyX8_ok (by decide +kernel) (by decide +kernel) (by decide +kernel) rfl (fun j hj => by rcases (show j = 0 ∨ j = 1 ∨ j = 2 ∨ j = 3 ∨ j = 4 by omega) with rfl | rfl | rfl | rfl | rfl <;> rfl) (Nat.le_of_ble_eq_true rfl) (Nat.le_of_ble_eq_true rfl) dX11_init_23 (fun h19 e20 f21 => ?_)
  have e20 : h19 (o + 1 + 2) = some (.inr (10, [.null, .null, .null, .int 0, .int 0])) := e20
  have x22 : h19 (o + 1) = some (.inl (z 5, 16, .inr (.inr (.inr (.inr (fun _ => none)))))) := (f21 _ (by omega)).trans x17
  have x23 : h19 (o + 1 + 1) = some (.inl (z 1, 200, .inl (fun _ => 0))) := (f21 _ (by omega)).trans x18
  have x24 : h19 o = some (.inr (13, [.ref (o + 1), .ref (o + 1 + 1), .int 0, .null, .null, .null, .null, .null, .null, .null, .null, .null, .int 0])) := (f21 _ (by omega)).trans e15
  refine ax_dup hC dX11_init_26 rfl ?_
  refine ax_callIN (st := [.ref (o + 1 + 2), .ref o]) hC [] (c_X8_init l D z B lo _ h19 (o + 1 + 2) e20 rfl) ⟨va_cnB 0 hC.1.2.2.2.2 gX11_init_X8_init_n21 rfl rfl rfl hC.2.2.1.1 (hC.1.2.2.2.2 _ (by decide +kernel)) (by decide +kernel) ⟨Nat.le_of_ble_eq_true rfl, Nat.le_of_ble_eq_true rfl⟩, rfl, hC.1.2.2.2.2 _ (by decide +kernel)⟩ rfl rfl (Nat.le_of_ble_eq_true rfl) dX11_init_27 ⟨Nat.le_of_ble_eq_true rfl, Nat.le_of_ble_eq_true rfl⟩ (fun hi25 h26 hp27 => ?_)
  obtain ⟨ei28, fr29, pd30⟩ := hp27
  subst ei28
  have x31 : h26 (o + 1) = some (.inl (z 5, 16, .inr (.inr (.inr (.inr (fun _ => none)))))) := (fr29 _ (by omega)).trans x22
  have x32 : h26 (o + 1 + 1) = some (.inl (z 1, 200, .inl (fun _ => 0))) := (fr29 _ (by omega)).trans x23
  have x33 : h26 o = some (.inr (13, [.ref (o + 1), .ref (o + 1 + 1), .int 0, .null, .null, .null, .null, .null, .null, .null, .null, .null, .int 0])) := (fr29 _ (by omega)).trans x24
  refine ax_putF (v := .ref (o + 1 + 2)) (ty := .object "SessionEnds$Reader") hC tyX11 x33 iX11 tyX11_ok nmX11 rfl 3 (by decide) (by decide +kernel) rfl rfl hnm rfl (by decide +kernel) (rfl) rfl (Nat.le_of_ble_eq_true rfl) dX11_init_30 (fun h34 e35 f36 => ?_)
  have e35 : h34 o = some (.inr (13, [.ref (o + 1), .ref (o + 1 + 1), .int 0, .ref (o + 1 + 2), .null, .null, .null, .null, .null, .null, .null, .null, .int 0])) := e35
  have x37 : h34 (o + 1) = some (.inl (z 5, 16, .inr (.inr (.inr (.inr (fun _ => none)))))) := (f36 _ (by omega)).trans x31
  have x38 : h34 (o + 1 + 1) = some (.inl (z 1, 200, .inl (fun _ => 0))) := (f36 _ (by omega)).trans x32
  have pd39 : RdI z h34 (o + 1 + 2) := pd30.kept (fun q _ _ => f36 q (by omega))
  refine ax_aload_n hC 0 dX11_init_33 rfl rfl ?_
  refine ax_new (C := RX6) (T := TX6) (N := 4) (ci := 8) (fs := [.null, .null, .int 0, .int 0]) hC tyX6 iX6 tyX6_ok (by decide +kernel) (by decide +kernel) (by decide +kernel) rfl (fun j hj => by rcases (show j = 0 ∨ j = 1 ∨ j = 2 ∨ j = 3 by omega) with rfl | rfl | rfl | rfl <;> rfl) (Nat.le_of_ble_eq_true rfl) (Nat.le_of_ble_eq_true rfl) dX11_init_34 (fun h40 e41 f42 => ?_)
  have e41 : h40 (o + 1 + 14) = some (.inr (8, [.null, .null, .int 0, .int 0])) := e41
  have x43 : h40 (o + 1) = some (.inl (z 5, 16, .inr (.inr (.inr (.inr (fun _ => none)))))) := (f42 _ (by omega)).trans x37
  have x44 : h40 (o + 1 + 1) = some (.inl (z 1, 200, .inl (fun _ => 0))) := (f42 _ (by omega)).trans x38
  have x45 : h40 o = some (.inr (13, [.ref (o + 1), .ref (o + 1 + 1), .int 0, .ref (o + 1 + 2), .null, .null, .null, .null, .null, .null, .null, .null, .int 0])) := (f42 _ (by omega)).trans e35
  have pd46 : RdI z h40 (o + 1 + 2) := pd39.kept (fun q _ _ => f42 q (by omega))
  refine ax_dup hC dX11_init_37 rfl ?_
  refine ax_callIN (st := [.ref (o + 1 + 14), .ref o]) hC [] (c_X6_init l D z B lo _ h40 (o + 1 + 14) e41 rfl) ⟨va_cnB 0 hC.1.2.2.2.2 gX11_init_X6_init_n28 rfl rfl rfl hC.2.2.1.2.1 (hC.1.2.2.2.2 _ (by decide +kernel)) (by decide +kernel) ⟨Nat.le_of_ble_eq_true rfl, Nat.le_of_ble_eq_true rfl⟩, rfl, hC.1.2.2.2.2 _ (by decide +kernel)⟩ rfl rfl (Nat.le_of_ble_eq_true rfl) dX11_init_38 ⟨Nat.le_of_ble_eq_true rfl, Nat.le_of_ble_eq_true rfl⟩ (fun hi47 h48 hp49 => ?_)
  obtain ⟨ei50, fr51⟩ := hp49
  subst ei50
  have x53 : h48 (o + 1) = some (.inl (z 5, 16, .inr (.inr (.inr (.inr (fun _ => none)))))) := (fr51 _ (by omega)).trans x43
  have x54 : h48 (o + 1 + 1) = some (.inl (z 1, 200, .inl (fun _ => 0))) := (fr51 _ (by omega)).trans x44
  have x55 : h48 o = some (.inr (13, [.ref (o + 1), .ref (o + 1 + 1), .int 0, .ref (o + 1 + 2), .null, .null, .null, .null, .null, .null, .null, .null, .int 0])) := (fr51 _ (by omega)).trans x45
  have pd56 : RdI z h48 (o + 1 + 2) := pd46.kept (fun q _ _ => fr51 q (by omega))
  refine ax_putF (v := .ref (o + 1 + 14)) (ty := .object "SessionEnds$PlanReader") hC tyX11 x55 iX11 tyX11_ok nmX11 rfl 4 (by decide) (by decide +kernel) rfl rfl hnm rfl (by decide +kernel) (rfl) rfl (Nat.le_of_ble_eq_true rfl) dX11_init_41 (fun h57 e58 f59 => ?_)
  have e58 : h57 o = some (.inr (13, [.ref (o + 1), .ref (o + 1 + 1), .int 0, .ref (o + 1 + 2), .ref (o + 1 + 14), .null, .null, .null, .null, .null, .null, .null, .int 0])) := e58
  have x60 : h57 (o + 1) = some (.inl (z 5, 16, .inr (.inr (.inr (.inr (fun _ => none)))))) := (f59 _ (by omega)).trans x53
  have x61 : h57 (o + 1 + 1) = some (.inl (z 1, 200, .inl (fun _ => 0))) := (f59 _ (by omega)).trans x54
  have pd62 : RdI z h57 (o + 1 + 2) := pd56.kept (fun q _ _ => f59 q (by omega))
  refine ax_aload_n hC 0 dX11_init_44 rfl rfl ?_
  refine ax_new (C := RX10) (T := TX10) (N := 2) (ci := 12) (fs := [.null, .int 0]) hC tyX10 iX10 tyX10_ok (by decide +kernel) (by decide +kernel) (by decide +kernel) rfl (fun j hj => by rcases (show j = 0 ∨ j = 1 by omega) with rfl | rfl <;> rfl) (Nat.le_of_ble_eq_true rfl) (Nat.le_of_ble_eq_true rfl) dX11_init_45 (fun h63 e64 f65 => ?_)
  have e64 : h63 (o + 1 + 20) = some (.inr (12, [.null, .int 0])) := e64
  have x66 : h63 (o + 1) = some (.inl (z 5, 16, .inr (.inr (.inr (.inr (fun _ => none)))))) := (f65 _ (by omega)).trans x60
  have x67 : h63 (o + 1 + 1) = some (.inl (z 1, 200, .inl (fun _ => 0))) := (f65 _ (by omega)).trans x61
  have x68 : h63 o = some (.inr (13, [.ref (o + 1), .ref (o + 1 + 1), .int 0, .ref (o + 1 + 2), .ref (o + 1 + 14), .null, .null, .null, .null, .null, .null, .null, .int 0])) := (f65 _ (by omega)).trans e58
  have pd69 : RdI z h63 (o + 1 + 2) := pd62.kept (fun q _ _ => f65 q (by omega))
  refine ax_dup hC dX11_init_48 rfl ?_
  refine ax_callIN (st := [.ref (o + 1 + 20), .ref o]) hC [] (c_X10_init l D z B lo _ h63 (o + 1 + 20) e64 rfl) ⟨va_cnB 0 hC.1.2.2.2.2 gX11_init_X10_init_n35 rfl rfl rfl hC.2.2.1.2.2.2.1 (hC.1.2.2.2.2 _ (by decide +kernel)) (by decide +kernel) ⟨Nat.le_of_ble_eq_true rfl, Nat.le_of_ble_eq_true rfl⟩, rfl, hC.1.2.2.2.2 _ (by decide +kernel)⟩ rfl rfl (Nat.le_of_ble_eq_true rfl) dX11_init_49 ⟨Nat.le_of_ble_eq_true rfl, Nat.le_of_ble_eq_true rfl⟩ (fun hi70 h71 hp72 => ?_)
  obtain ⟨ei73, fr74⟩ := hp72
  subst ei73
  have x76 : h71 (o + 1) = some (.inl (z 5, 16, .inr (.inr (.inr (.inr (fun _ => none)))))) := (fr74 _ (by omega)).trans x66
  have x77 : h71 (o + 1 + 1) = some (.inl (z 1, 200, .inl (fun _ => 0))) := (fr74 _ (by omega)).trans x67
  have x78 : h71 o = some (.inr (13, [.ref (o + 1), .ref (o + 1 + 1), .int 0, .ref (o + 1 + 2), .ref (o + 1 + 14), .null, .null, .null, .null, .null, .null, .null, .int 0])) := (fr74 _ (by omega)).trans x68
  have pd79 : RdI z h71 (o + 1 + 2) := pd69.kept (fun q _ _ => fr74 q (by omega))
  refine ax_putF (v := .ref (o + 1 + 20)) (ty := .object "SessionEnds$Speller") hC tyX11 x78 iX11 tyX11_ok nmX11 rfl 5 (by decide) (by decide +kernel) rfl rfl hnm rfl (by decide +kernel) (rfl) rfl (Nat.le_of_ble_eq_true rfl) dX11_init_52 (fun h80 e81 f82 => ?_)
  have e81 : h80 o = some (.inr (13, [.ref (o + 1), .ref (o + 1 + 1), .int 0, .ref (o + 1 + 2), .ref (o + 1 + 14), .ref (o + 1 + 20), .null, .null, .null, .null, .null, .null, .int 0])) := e81
  have x83 : h80 (o + 1) = some (.inl (z 5, 16, .inr (.inr (.inr (.inr (fun _ => none)))))) := (f82 _ (by omega)).trans x76
  have x84 : h80 (o + 1 + 1) = some (.inl (z 1, 200, .inl (fun _ => 0))) := (f82 _ (by omega)).trans x77
  have pd85 : RdI z h80 (o + 1 + 2) := pd79.kept (fun q _ _ => f82 q (by omega))
  refine ax_aload_n hC 0 dX11_init_55 rfl rfl ?_
  refine ax_new (C := RX1) (T := TX1) (N := 3) (ci := 3) (fs := [.null, .null, .int 0]) hC tyX1 iX1 tyX1_ok (by decide +kernel) (by decide +kernel) (by decide +kernel) rfl (fun j hj => by rcases (show j = 0 ∨ j = 1 ∨ j = 2 by omega) with rfl | rfl | rfl <;> rfl) (Nat.le_of_ble_eq_true rfl) (Nat.le_of_ble_eq_true rfl) dX11_init_56 (fun h86 e87 f88 => ?_)
  have e87 : h86 (o + 1 + 22) = some (.inr (3, [.null, .null, .int 0])) := e87
  have x89 : h86 (o + 1) = some (.inl (z 5, 16, .inr (.inr (.inr (.inr (fun _ => none)))))) := (f88 _ (by omega)).trans x83
  have x90 : h86 (o + 1 + 1) = some (.inl (z 1, 200, .inl (fun _ => 0))) := (f88 _ (by omega)).trans x84
  have x91 : h86 o = some (.inr (13, [.ref (o + 1), .ref (o + 1 + 1), .int 0, .ref (o + 1 + 2), .ref (o + 1 + 14), .ref (o + 1 + 20), .null, .null, .null, .null, .null, .null, .int 0])) := (f88 _ (by omega)).trans e81
  have pd92 : RdI z h86 (o + 1 + 2) := pd85.kept (fun q _ _ => f88 q (by omega))
  refine ax_dup hC dX11_init_59 rfl ?_
  refine ax_callIN (st := [.ref (o + 1 + 22), .ref o]) hC [] (c_X1_init l D z B lo _ h86 (o + 1 + 22) e87 rfl) ⟨va_cnB 0 hC.1.2.2.2.2 gX11_init_X1_init_n42 rfl rfl rfl hC.2.2.1.2.2.2.2.1 (hC.1.2.2.2.2 _ (by decide +kernel)) (by decide +kernel) ⟨Nat.le_of_ble_eq_true rfl, Nat.le_of_ble_eq_true rfl⟩, rfl, hC.1.2.2.2.2 _ (by decide +kernel)⟩ rfl rfl (Nat.le_of_ble_eq_true rfl) dX11_init_60 ⟨Nat.le_of_ble_eq_true rfl, Nat.le_of_ble_eq_true rfl⟩ (fun hi93 h94 hp95 => ?_)
  obtain ⟨ei96, fr97, pd98⟩ := hp95
  subst ei96
  have x99 : h94 (o + 1) = some (.inl (z 5, 16, .inr (.inr (.inr (.inr (fun _ => none)))))) := (fr97 _ (by omega)).trans x89
  have x100 : h94 (o + 1 + 1) = some (.inl (z 1, 200, .inl (fun _ => 0))) := (fr97 _ (by omega)).trans x90
  have x101 : h94 o = some (.inr (13, [.ref (o + 1), .ref (o + 1 + 1), .int 0, .ref (o + 1 + 2), .ref (o + 1 + 14), .ref (o + 1 + 20), .null, .null, .null, .null, .null, .null, .int 0])) := (fr97 _ (by omega)).trans x91
  have pd102 : RdI z h94 (o + 1 + 2) := pd92.kept (fun q _ _ => fr97 q (by omega))
  refine ax_putF (v := .ref (o + 1 + 22)) (ty := .object "SessionEnds$Compare") hC tyX11 x101 iX11 tyX11_ok nmX11 rfl 6 (by decide) (by decide +kernel) rfl rfl hnm rfl (by decide +kernel) (rfl) rfl (Nat.le_of_ble_eq_true rfl) dX11_init_63 (fun h103 e104 f105 => ?_)
  have e104 : h103 o = some (.inr (13, [.ref (o + 1), .ref (o + 1 + 1), .int 0, .ref (o + 1 + 2), .ref (o + 1 + 14), .ref (o + 1 + 20), .ref (o + 1 + 22), .null, .null, .null, .null, .null, .int 0])) := e104
  have x106 : h103 (o + 1) = some (.inl (z 5, 16, .inr (.inr (.inr (.inr (fun _ => none)))))) := (f105 _ (by omega)).trans x99
  have x107 : h103 (o + 1 + 1) = some (.inl (z 1, 200, .inl (fun _ => 0))) := (f105 _ (by omega)).trans x100
  have pd108 : RdI z h103 (o + 1 + 2) := pd102.kept (fun q _ _ => f105 q (by omega))
  have pd109 : CmpS z h103 (o + 1 + 22) := pd98.kept (fun q _ _ => f105 q (by omega))
  refine ax_aload_n hC 0 dX11_init_66 rfl rfl ?_
  refine ax_new (C := RX3) (T := TX3) (N := 8) (ci := 5) (fs := [.null, .int 0, .null, .null, .null, .null, .null, .int 0]) hC tyX3 iX3 tyX3_ok (by decide +kernel) (by decide +kernel) (by decide +kernel) rfl (fun j hj => by rcases (show j = 0 ∨ j = 1 ∨ j = 2 ∨ j = 3 ∨ j = 4 ∨ j = 5 ∨ j = 6 ∨ j = 7 by omega) with rfl | rfl | rfl | rfl | rfl | rfl | rfl | rfl <;> rfl) (Nat.le_of_ble_eq_true rfl) (Nat.le_of_ble_eq_true rfl) dX11_init_67 (fun h110 e111 f112 => ?_)
  have e111 : h110 (o + 1 + 25) = some (.inr (5, [.null, .int 0, .null, .null, .null, .null, .null, .int 0])) := e111
  have x113 : h110 (o + 1) = some (.inl (z 5, 16, .inr (.inr (.inr (.inr (fun _ => none)))))) := (f112 _ (by omega)).trans x106
  have x114 : h110 (o + 1 + 1) = some (.inl (z 1, 200, .inl (fun _ => 0))) := (f112 _ (by omega)).trans x107
  have x115 : h110 o = some (.inr (13, [.ref (o + 1), .ref (o + 1 + 1), .int 0, .ref (o + 1 + 2), .ref (o + 1 + 14), .ref (o + 1 + 20), .ref (o + 1 + 22), .null, .null, .null, .null, .null, .int 0])) := (f112 _ (by omega)).trans e104
  have pd116 : RdI z h110 (o + 1 + 2) := pd108.kept (fun q _ _ => f112 q (by omega))
  have pd117 : CmpS z h110 (o + 1 + 22) := pd109.kept (fun q _ _ => f112 q (by omega))
  refine ax_dup hC dX11_init_70 rfl ?_
  refine ax_aload_n hC 0 dX11_init_71 rfl rfl ?_
  refine ax_getf (v := .ref (o + 1 + 22)) hC x115 iX11 rfl 6 (by decide) (by decide +kernel) rfl rfl dX11_init_72 ?_
  refine ax_callI (st := [.ref (o + 1 + 25), .ref o]) hC [.ref (o + 1 + 22)] (c_X3_init l D z B lo _ h110 (o + 1 + 25) (o + 1 + 22) e111 rfl) (cwI 1 hC.1.2.2.2.2 gX11_init_X3_init rfl rfl rfl (hC.1.2.2.2.2 _ (by decide +kernel)) (hC.1.2.2.2.2 _ (by decide +kernel)) (hC.1.2.2.2.2 _ (by decide +kernel)) rfl (by decide +kernel) ⟨Nat.le_of_ble_eq_true rfl, Nat.le_of_ble_eq_true rfl⟩) rfl rfl (Nat.le_of_ble_eq_true rfl) dX11_init_75 ⟨Nat.le_of_ble_eq_true rfl, Nat.le_of_ble_eq_true rfl⟩ (fun hi118 h119 hp120 => ?_)
  obtain ⟨ei121, fr122, pd123⟩ := hp120
  subst ei121
  have x124 : h119 (o + 1) = some (.inl (z 5, 16, .inr (.inr (.inr (.inr (fun _ => none)))))) := (fr122 _ (by omega)).trans x113
  have x125 : h119 (o + 1 + 1) = some (.inl (z 1, 200, .inl (fun _ => 0))) := (fr122 _ (by omega)).trans x114
  have x126 : h119 o = some (.inr (13, [.ref (o + 1), .ref (o + 1 + 1), .int 0, .ref (o + 1 + 2), .ref (o + 1 + 14), .ref (o + 1 + 20), .ref (o + 1 + 22), .null, .null, .null, .null, .null, .int 0])) := (fr122 _ (by omega)).trans x115
  have pd127 : RdI z h119 (o + 1 + 2) := pd116.kept (fun q _ _ => fr122 q (by omega))
  have pd128 : CmpS z h119 (o + 1 + 22) := pd117.kept (fun q _ _ => fr122 q (by omega))
  refine ax_putF (v := .ref (o + 1 + 25)) (ty := .object "SessionEnds$Hindrance") hC tyX11 x126 iX11 tyX11_ok nmX11 rfl 7 (by decide) (by decide +kernel) rfl rfl hnm rfl (by decide +kernel) (rfl) rfl (Nat.le_of_ble_eq_true rfl) dX11_init_78 (fun h129 e130 f131 => ?_)
  have e130 : h129 o = some (.inr (13, [.ref (o + 1), .ref (o + 1 + 1), .int 0, .ref (o + 1 + 2), .ref (o + 1 + 14), .ref (o + 1 + 20), .ref (o + 1 + 22), .ref (o + 1 + 25), .null, .null, .null, .null, .int 0])) := e130
  have x132 : h129 (o + 1) = some (.inl (z 5, 16, .inr (.inr (.inr (.inr (fun _ => none)))))) := (f131 _ (by omega)).trans x124
  have x133 : h129 (o + 1 + 1) = some (.inl (z 1, 200, .inl (fun _ => 0))) := (f131 _ (by omega)).trans x125
  have pd134 : RdI z h129 (o + 1 + 2) := pd127.kept (fun q _ _ => f131 q (by omega))
  have pd135 : CmpS z h129 (o + 1 + 22) := pd128.kept (fun q _ _ => f131 q (by omega))
  have pd136 : HinS z h129 (o + 1 + 25) (o + 1 + 22) := pd123.kept (fun q _ _ => f131 q (by omega))
  refine ax_aload_n hC 0 dX11_init_81 rfl rfl ?_
  refine ax_new (C := RX4) (T := TX4) (N := 15) (ci := 6) (fs := [.int 0, .int 0, .int 0, .int 0, .int 0, .null, .null, .null, .null, .null, .null, .null, .null, .int 0, .int 0]) hC tyX4 iX4 tyX4_ok (by decide +kernel) (by decide +kernel) (by decide +kernel) rfl (fun j hj => by rcases (show j = 0 ∨ j = 1 ∨ j = 2 ∨ j = 3 ∨ j = 4 ∨ j = 5 ∨ j = 6 ∨ j = 7 ∨ j = 8 ∨ j = 9 ∨ j = 10 ∨ j = 11 ∨ j = 12 ∨ j = 13 ∨ j = 14 by omega) with rfl | rfl | rfl | rfl | rfl | rfl | rfl | rfl | rfl | rfl | rfl | rfl | rfl | rfl | rfl <;> rfl) (Nat.le_of_ble_eq_true rfl) (Nat.le_of_ble_eq_true rfl) dX11_init_82 (fun h137 e138 f139 => ?_)
  have e138 : h137 (o + 1 + 31) = some (.inr (6, [.int 0, .int 0, .int 0, .int 0, .int 0, .null, .null, .null, .null, .null, .null, .null, .null, .int 0, .int 0])) := e138
  have x140 : h137 (o + 1) = some (.inl (z 5, 16, .inr (.inr (.inr (.inr (fun _ => none)))))) := (f139 _ (by omega)).trans x132
  have x141 : h137 (o + 1 + 1) = some (.inl (z 1, 200, .inl (fun _ => 0))) := (f139 _ (by omega)).trans x133
  have x142 : h137 o = some (.inr (13, [.ref (o + 1), .ref (o + 1 + 1), .int 0, .ref (o + 1 + 2), .ref (o + 1 + 14), .ref (o + 1 + 20), .ref (o + 1 + 22), .ref (o + 1 + 25), .null, .null, .null, .null, .int 0])) := (f139 _ (by omega)).trans e130
  have pd143 : RdI z h137 (o + 1 + 2) := pd134.kept (fun q _ _ => f139 q (by omega))
  have pd144 : CmpS z h137 (o + 1 + 22) := pd135.kept (fun q _ _ => f139 q (by omega))
  have pd145 : HinS z h137 (o + 1 + 25) (o + 1 + 22) := pd136.kept (fun q _ _ => f139 q (by omega))
  refine ax_dup hC dX11_init_85 rfl ?_
  refine ax_aload_n hC 0 dX11_init_86 rfl rfl ?_
  refine ax_getf (v := .ref (o + 1 + 22)) hC x142 iX11 rfl 6 (by decide) (by decide +kernel) rfl rfl dX11_init_87 ?_
  refine ax_callI (st := [.ref (o + 1 + 31), .ref o]) hC [.ref (o + 1 + 22)] (c_X4_init l D z B lo _ h137 (o + 1 + 31) (o + 1 + 22) e138 rfl) (cwI 1 hC.1.2.2.2.2 gX11_init_X4_init rfl rfl rfl (hC.1.2.2.2.2 _ (by decide +kernel)) (hC.1.2.2.2.2 _ (by decide +kernel)) (hC.1.2.2.2.2 _ (by decide +kernel)) rfl (by decide +kernel) ⟨Nat.le_of_ble_eq_true rfl, Nat.le_of_ble_eq_true rfl⟩) rfl rfl (Nat.le_of_ble_eq_true rfl) dX11_init_90 ⟨Nat.le_of_ble_eq_true rfl, Nat.le_of_ble_eq_true rfl⟩ (fun hi146 h147 hp148 => ?_)
  obtain ⟨ei149, fr150, pd151⟩ := hp148
  subst ei149
  have x152 : h147 (o + 1) = some (.inl (z 5, 16, .inr (.inr (.inr (.inr (fun _ => none)))))) := (fr150 _ (by omega)).trans x140
  have x153 : h147 (o + 1 + 1) = some (.inl (z 1, 200, .inl (fun _ => 0))) := (fr150 _ (by omega)).trans x141
  have x154 : h147 o = some (.inr (13, [.ref (o + 1), .ref (o + 1 + 1), .int 0, .ref (o + 1 + 2), .ref (o + 1 + 14), .ref (o + 1 + 20), .ref (o + 1 + 22), .ref (o + 1 + 25), .null, .null, .null, .null, .int 0])) := (fr150 _ (by omega)).trans x142
  have pd155 : RdI z h147 (o + 1 + 2) := pd143.kept (fun q _ _ => fr150 q (by omega))
  have pd156 : CmpS z h147 (o + 1 + 22) := pd144.kept (fun q _ _ => fr150 q (by omega))
  have pd157 : HinS z h147 (o + 1 + 25) (o + 1 + 22) := pd145.kept (fun q _ _ => fr150 q (by omega))
  refine ax_putF (v := .ref (o + 1 + 31)) (ty := .object "SessionEnds$Meeting") hC tyX11 x154 iX11 tyX11_ok nmX11 rfl 8 (by decide) (by decide +kernel) rfl rfl hnm rfl (by decide +kernel) (rfl) rfl (Nat.le_of_ble_eq_true rfl) dX11_init_93 (fun h158 e159 f160 => ?_)
  have e159 : h158 o = some (.inr (13, [.ref (o + 1), .ref (o + 1 + 1), .int 0, .ref (o + 1 + 2), .ref (o + 1 + 14), .ref (o + 1 + 20), .ref (o + 1 + 22), .ref (o + 1 + 25), .ref (o + 1 + 31), .null, .null, .null, .int 0])) := e159
  have x161 : h158 (o + 1) = some (.inl (z 5, 16, .inr (.inr (.inr (.inr (fun _ => none)))))) := (f160 _ (by omega)).trans x152
  have x162 : h158 (o + 1 + 1) = some (.inl (z 1, 200, .inl (fun _ => 0))) := (f160 _ (by omega)).trans x153
  have pd163 : RdI z h158 (o + 1 + 2) := pd155.kept (fun q _ _ => f160 q (by omega))
  have pd164 : CmpS z h158 (o + 1 + 22) := pd156.kept (fun q _ _ => f160 q (by omega))
  have pd165 : HinS z h158 (o + 1 + 25) (o + 1 + 22) := pd157.kept (fun q _ _ => f160 q (by omega))
  have pd166 : MtC z h158 (o + 1 + 31) (o + 1 + 22) none none 0 0 := pd151.kept (fun q _ _ => f160 q (by omega))
  refine ax_aload_n hC 0 dX11_init_96 rfl rfl ?_
  refine ax_bipush (v := 60) hC dX11_init_97 (by decide) ?_
  refine ax_newa (a0 := (60, .inl (fun _ => 0))) (N' := 60) hC 1 rfl (by decide +kernel) rfl (fun C q => by cases q) (fun cA => by first | rfl | simp [vp_cell, arrV, defaultValue]) (by decide) (by decide) (Nat.le_of_ble_eq_true rfl) (Nat.le_of_ble_eq_true rfl) (Nat.le_of_ble_eq_true rfl) dX11_init_99 (fun h167 e168 f169 => ?_)
  have e168 : h167 (o + 1 + 39) = some (.inl (z 1, 60, .inl (fun _ => 0))) := e168
  have x170 : h167 (o + 1) = some (.inl (z 5, 16, .inr (.inr (.inr (.inr (fun _ => none)))))) := (f169 _ (by omega)).trans x161
  have x171 : h167 (o + 1 + 1) = some (.inl (z 1, 200, .inl (fun _ => 0))) := (f169 _ (by omega)).trans x162
  have x172 : h167 o = some (.inr (13, [.ref (o + 1), .ref (o + 1 + 1), .int 0, .ref (o + 1 + 2), .ref (o + 1 + 14), .ref (o + 1 + 20), .ref (o + 1 + 22), .ref (o + 1 + 25), .ref (o + 1 + 31), .null, .null, .null, .int 0])) := (f169 _ (by omega)).trans e159
  have pd173 : RdI z h167 (o + 1 + 2) := pd163.kept (fun q _ _ => f169 q (by omega))
  have pd174 : CmpS z h167 (o + 1 + 22) := pd164.kept (fun q _ _ => f169 q (by omega))
  have pd175 : HinS z h167 (o + 1 + 25) (o + 1 + 22) := pd165.kept (fun q _ _ => f169 q (by omega))
  have pd176 : MtC z h167 (o + 1 + 31) (o + 1 + 22) none none 0 0 := pd166.kept (fun q _ _ => f169 q (by omega))
  refine ax_putF (v := .ref (o + 1 + 39)) (ty := .array .int) hC tyX11 x172 iX11 tyX11_ok nmX11 rfl 9 (by decide) (by decide +kernel) rfl rfl hnm rfl (by decide +kernel) (rfl) rfl (Nat.le_of_ble_eq_true rfl) dX11_init_101 (fun h177 e178 f179 => ?_)
  have e178 : h177 o = some (.inr (13, [.ref (o + 1), .ref (o + 1 + 1), .int 0, .ref (o + 1 + 2), .ref (o + 1 + 14), .ref (o + 1 + 20), .ref (o + 1 + 22), .ref (o + 1 + 25), .ref (o + 1 + 31), .ref (o + 1 + 39), .null, .null, .int 0])) := e178
  have x180 : h177 (o + 1) = some (.inl (z 5, 16, .inr (.inr (.inr (.inr (fun _ => none)))))) := (f179 _ (by omega)).trans x170
  have x181 : h177 (o + 1 + 1) = some (.inl (z 1, 200, .inl (fun _ => 0))) := (f179 _ (by omega)).trans x171
  have x182 : h177 (o + 1 + 39) = some (.inl (z 1, 60, .inl (fun _ => 0))) := (f179 _ (by omega)).trans e168
  have pd183 : RdI z h177 (o + 1 + 2) := pd173.kept (fun q _ _ => f179 q (by omega))
  have pd184 : CmpS z h177 (o + 1 + 22) := pd174.kept (fun q _ _ => f179 q (by omega))
  have pd185 : HinS z h177 (o + 1 + 25) (o + 1 + 22) := pd175.kept (fun q _ _ => f179 q (by omega))
  have pd186 : MtC z h177 (o + 1 + 31) (o + 1 + 22) none none 0 0 := pd176.kept (fun q _ _ => f179 q (by omega))
  refine ax_aload_n hC 0 dX11_init_104 rfl rfl ?_
  refine ax_new (C := RX9) (T := TX9) (N := 11) (ci := 11) (fs := [.null, .null, .null, .int 0, .int 0, .int 0, .int 0, .int 0, .int 0, .int 0, .int 0]) hC tyX9 iX9 tyX9_ok (by decide +kernel) (by decide +kernel) (by decide +kernel) rfl (fun j hj => by rcases (show j = 0 ∨ j = 1 ∨ j = 2 ∨ j = 3 ∨ j = 4 ∨ j = 5 ∨ j = 6 ∨ j = 7 ∨ j = 8 ∨ j = 9 ∨ j = 10 by omega) with rfl | rfl | rfl | rfl | rfl | rfl | rfl | rfl | rfl | rfl | rfl <;> rfl) (Nat.le_of_ble_eq_true rfl) (Nat.le_of_ble_eq_true rfl) dX11_init_105 (fun h187 e188 f189 => ?_)
  have e188 : h187 (o + 1 + 40) = some (.inr (11, [.null, .null, .null, .int 0, .int 0, .int 0, .int 0, .int 0, .int 0, .int 0, .int 0])) := e188
  have x190 : h187 (o + 1) = some (.inl (z 5, 16, .inr (.inr (.inr (.inr (fun _ => none)))))) := (f189 _ (by omega)).trans x180
  have x191 : h187 (o + 1 + 1) = some (.inl (z 1, 200, .inl (fun _ => 0))) := (f189 _ (by omega)).trans x181
  have x192 : h187 (o + 1 + 39) = some (.inl (z 1, 60, .inl (fun _ => 0))) := (f189 _ (by omega)).trans x182
  have x193 : h187 o = some (.inr (13, [.ref (o + 1), .ref (o + 1 + 1), .int 0, .ref (o + 1 + 2), .ref (o + 1 + 14), .ref (o + 1 + 20), .ref (o + 1 + 22), .ref (o + 1 + 25), .ref (o + 1 + 31), .ref (o + 1 + 39), .null, .null, .int 0])) := (f189 _ (by omega)).trans e178
  have pd194 : RdI z h187 (o + 1 + 2) := pd183.kept (fun q _ _ => f189 q (by omega))
  have pd195 : CmpS z h187 (o + 1 + 22) := pd184.kept (fun q _ _ => f189 q (by omega))
  have pd196 : HinS z h187 (o + 1 + 25) (o + 1 + 22) := pd185.kept (fun q _ _ => f189 q (by omega))
  have pd197 : MtC z h187 (o + 1 + 31) (o + 1 + 22) none none 0 0 := pd186.kept (fun q _ _ => f189 q (by omega))
  refine ax_dup hC dX11_init_108 rfl ?_
  refine ax_callI (st := [.ref (o + 1 + 40), .ref o]) hC [] (c_X9_init l D z B lo _ h187 (o + 1 + 40) e188 rfl) (cwI 0 hC.1.2.2.2.2 gX11_init_X9_init rfl rfl rfl (hC.1.2.2.2.2 _ (by decide +kernel)) (hC.1.2.2.2.2 _ (by decide +kernel)) (hC.1.2.2.2.2 _ (by decide +kernel)) rfl (by decide +kernel) ⟨Nat.le_of_ble_eq_true rfl, Nat.le_of_ble_eq_true rfl⟩) rfl rfl (Nat.le_of_ble_eq_true rfl) dX11_init_109 ⟨Nat.le_of_ble_eq_true rfl, Nat.le_of_ble_eq_true rfl⟩ (fun hi198 h199 hp200 => ?_)
  obtain ⟨ei201, fr202, pd203a, pd203b, pd203c⟩ := hp200
  subst ei201
  have x204 : h199 (o + 1) = some (.inl (z 5, 16, .inr (.inr (.inr (.inr (fun _ => none)))))) := (fr202 _ (by omega)).trans x190
  have x205 : h199 (o + 1 + 1) = some (.inl (z 1, 200, .inl (fun _ => 0))) := (fr202 _ (by omega)).trans x191
  have x206 : h199 (o + 1 + 39) = some (.inl (z 1, 60, .inl (fun _ => 0))) := (fr202 _ (by omega)).trans x192
  have x207 : h199 o = some (.inr (13, [.ref (o + 1), .ref (o + 1 + 1), .int 0, .ref (o + 1 + 2), .ref (o + 1 + 14), .ref (o + 1 + 20), .ref (o + 1 + 22), .ref (o + 1 + 25), .ref (o + 1 + 31), .ref (o + 1 + 39), .null, .null, .int 0])) := (fr202 _ (by omega)).trans x193
  have pd208 : RdI z h199 (o + 1 + 2) := pd194.kept (fun q _ _ => fr202 q (by omega))
  have pd209 : CmpS z h199 (o + 1 + 22) := pd195.kept (fun q _ _ => fr202 q (by omega))
  have pd210 : HinS z h199 (o + 1 + 25) (o + 1 + 22) := pd196.kept (fun q _ _ => fr202 q (by omega))
  have pd211 : MtC z h199 (o + 1 + 31) (o + 1 + 22) none none 0 0 := pd197.kept (fun q _ _ => fr202 q (by omega))
  refine ax_putF (v := .ref (o + 1 + 40)) (ty := .object "SessionEnds$Room") hC tyX11 x207 iX11 tyX11_ok nmX11 rfl 10 (by decide) (by decide +kernel) rfl rfl hnm rfl (by decide +kernel) (rfl) rfl (Nat.le_of_ble_eq_true rfl) dX11_init_112 (fun h212 e213 f214 => ?_)
  have e213 : h212 o = some (.inr (13, [.ref (o + 1), .ref (o + 1 + 1), .int 0, .ref (o + 1 + 2), .ref (o + 1 + 14), .ref (o + 1 + 20), .ref (o + 1 + 22), .ref (o + 1 + 25), .ref (o + 1 + 31), .ref (o + 1 + 39), .ref (o + 1 + 40), .null, .int 0])) := e213
  have x215 : h212 (o + 1) = some (.inl (z 5, 16, .inr (.inr (.inr (.inr (fun _ => none)))))) := (f214 _ (by omega)).trans x204
  have x216 : h212 (o + 1 + 1) = some (.inl (z 1, 200, .inl (fun _ => 0))) := (f214 _ (by omega)).trans x205
  have x217 : h212 (o + 1 + 39) = some (.inl (z 1, 60, .inl (fun _ => 0))) := (f214 _ (by omega)).trans x206
  have pd218 : RdI z h212 (o + 1 + 2) := pd208.kept (fun q _ _ => f214 q (by omega))
  have pd219 : CmpS z h212 (o + 1 + 22) := pd209.kept (fun q _ _ => f214 q (by omega))
  have pd220 : HinS z h212 (o + 1 + 25) (o + 1 + 22) := pd210.kept (fun q _ _ => f214 q (by omega))
  have pd221 : MtC z h212 (o + 1 + 31) (o + 1 + 22) none none 0 0 := pd211.kept (fun q _ _ => f214 q (by omega))
  have pd222 : RmS z h212 (o + 1 + 40) 0 2 0 0 0 0 0 0 := pd203a.kept (fun q _ _ => f214 q (by omega))
  have pd223 : BlmS z h212 (o + 1 + 40 + 3) 0 0 0 0 0 (fun _ => 0) := pd203b.kept (fun q _ _ => f214 q (by omega))
  have pd224 : Ends0 z h212 (o + 1 + 40 + 5) 16 := pd203c.kept (fun q _ _ => f214 q (by omega))
  refine ax_aload_n hC 0 dX11_init_115 rfl rfl ?_
  refine ax_new (C := RX9) (T := TX9) (N := 11) (ci := 11) (fs := [.null, .null, .null, .int 0, .int 0, .int 0, .int 0, .int 0, .int 0, .int 0, .int 0]) hC tyX9 iX9 tyX9_ok (by decide +kernel) (by decide +kernel) (by decide +kernel) rfl (fun j hj => by rcases (show j = 0 ∨ j = 1 ∨ j = 2 ∨ j = 3 ∨ j = 4 ∨ j = 5 ∨ j = 6 ∨ j = 7 ∨ j = 8 ∨ j = 9 ∨ j = 10 by omega) with rfl | rfl | rfl | rfl | rfl | rfl | rfl | rfl | rfl | rfl | rfl <;> rfl) (Nat.le_of_ble_eq_true rfl) (Nat.le_of_ble_eq_true rfl) dX11_init_116 (fun h225 e226 f227 => ?_)
  have e226 : h225 (o + 1 + 93) = some (.inr (11, [.null, .null, .null, .int 0, .int 0, .int 0, .int 0, .int 0, .int 0, .int 0, .int 0])) := e226
  have x228 : h225 (o + 1) = some (.inl (z 5, 16, .inr (.inr (.inr (.inr (fun _ => none)))))) := (f227 _ (by omega)).trans x215
  have x229 : h225 (o + 1 + 1) = some (.inl (z 1, 200, .inl (fun _ => 0))) := (f227 _ (by omega)).trans x216
  have x230 : h225 (o + 1 + 39) = some (.inl (z 1, 60, .inl (fun _ => 0))) := (f227 _ (by omega)).trans x217
  have x231 : h225 o = some (.inr (13, [.ref (o + 1), .ref (o + 1 + 1), .int 0, .ref (o + 1 + 2), .ref (o + 1 + 14), .ref (o + 1 + 20), .ref (o + 1 + 22), .ref (o + 1 + 25), .ref (o + 1 + 31), .ref (o + 1 + 39), .ref (o + 1 + 40), .null, .int 0])) := (f227 _ (by omega)).trans e213
  have pd232 : RdI z h225 (o + 1 + 2) := pd218.kept (fun q _ _ => f227 q (by omega))
  have pd233 : CmpS z h225 (o + 1 + 22) := pd219.kept (fun q _ _ => f227 q (by omega))
  have pd234 : HinS z h225 (o + 1 + 25) (o + 1 + 22) := pd220.kept (fun q _ _ => f227 q (by omega))
  have pd235 : MtC z h225 (o + 1 + 31) (o + 1 + 22) none none 0 0 := pd221.kept (fun q _ _ => f227 q (by omega))
  have pd236 : RmS z h225 (o + 1 + 40) 0 2 0 0 0 0 0 0 := pd222.kept (fun q _ _ => f227 q (by omega))
  have pd237 : BlmS z h225 (o + 1 + 40 + 3) 0 0 0 0 0 (fun _ => 0) := pd223.kept (fun q _ _ => f227 q (by omega))
  have pd238 : Ends0 z h225 (o + 1 + 40 + 5) 16 := pd224.kept (fun q _ _ => f227 q (by omega))
  refine ax_dup hC dX11_init_119 rfl ?_
  refine ax_callI (st := [.ref (o + 1 + 93), .ref o]) hC [] (c_X9_init l D z B lo _ h225 (o + 1 + 93) e226 rfl) (cwI 0 hC.1.2.2.2.2 gX11_init_X9_init rfl rfl rfl (hC.1.2.2.2.2 _ (by decide +kernel)) (hC.1.2.2.2.2 _ (by decide +kernel)) (hC.1.2.2.2.2 _ (by decide +kernel)) rfl (by decide +kernel) ⟨Nat.le_of_ble_eq_true rfl, Nat.le_of_ble_eq_true rfl⟩) rfl rfl (Nat.le_of_ble_eq_true rfl) dX11_init_120 ⟨Nat.le_of_ble_eq_true rfl, Nat.le_of_ble_eq_true rfl⟩ (fun hi239 h240 hp241 => ?_)
  obtain ⟨ei242, fr243, pd244a, pd244b, pd244c⟩ := hp241
  subst ei242
  have x245 : h240 (o + 1) = some (.inl (z 5, 16, .inr (.inr (.inr (.inr (fun _ => none)))))) := (fr243 _ (by omega)).trans x228
  have x246 : h240 (o + 1 + 1) = some (.inl (z 1, 200, .inl (fun _ => 0))) := (fr243 _ (by omega)).trans x229
  have x247 : h240 (o + 1 + 39) = some (.inl (z 1, 60, .inl (fun _ => 0))) := (fr243 _ (by omega)).trans x230
  have x248 : h240 o = some (.inr (13, [.ref (o + 1), .ref (o + 1 + 1), .int 0, .ref (o + 1 + 2), .ref (o + 1 + 14), .ref (o + 1 + 20), .ref (o + 1 + 22), .ref (o + 1 + 25), .ref (o + 1 + 31), .ref (o + 1 + 39), .ref (o + 1 + 40), .null, .int 0])) := (fr243 _ (by omega)).trans x231
  have pd249 : RdI z h240 (o + 1 + 2) := pd232.kept (fun q _ _ => fr243 q (by omega))
  have pd250 : CmpS z h240 (o + 1 + 22) := pd233.kept (fun q _ _ => fr243 q (by omega))
  have pd251 : HinS z h240 (o + 1 + 25) (o + 1 + 22) := pd234.kept (fun q _ _ => fr243 q (by omega))
  have pd252 : MtC z h240 (o + 1 + 31) (o + 1 + 22) none none 0 0 := pd235.kept (fun q _ _ => fr243 q (by omega))
  have pd253 : RmS z h240 (o + 1 + 40) 0 2 0 0 0 0 0 0 := pd236.kept (fun q _ _ => fr243 q (by omega))
  have pd254 : BlmS z h240 (o + 1 + 40 + 3) 0 0 0 0 0 (fun _ => 0) := pd237.kept (fun q _ _ => fr243 q (by omega))
  have pd255 : Ends0 z h240 (o + 1 + 40 + 5) 16 := pd238.kept (fun q _ _ => fr243 q (by omega))
  refine ax_putF (v := .ref (o + 1 + 93)) (ty := .object "SessionEnds$Room") hC tyX11 x248 iX11 tyX11_ok nmX11 rfl 11 (by decide) (by decide +kernel) rfl rfl hnm rfl (by decide +kernel) (rfl) rfl (Nat.le_of_ble_eq_true rfl) dX11_init_123 (fun h256 e257 f258 => ?_)
  have e257 : h256 o = some (.inr (13, [.ref (o + 1), .ref (o + 1 + 1), .int 0, .ref (o + 1 + 2), .ref (o + 1 + 14), .ref (o + 1 + 20), .ref (o + 1 + 22), .ref (o + 1 + 25), .ref (o + 1 + 31), .ref (o + 1 + 39), .ref (o + 1 + 40), .ref (o + 1 + 93), .int 0])) := e257
  have x259 : h256 (o + 1) = some (.inl (z 5, 16, .inr (.inr (.inr (.inr (fun _ => none)))))) := (f258 _ (by omega)).trans x245
  have x260 : h256 (o + 1 + 1) = some (.inl (z 1, 200, .inl (fun _ => 0))) := (f258 _ (by omega)).trans x246
  have x261 : h256 (o + 1 + 39) = some (.inl (z 1, 60, .inl (fun _ => 0))) := (f258 _ (by omega)).trans x247
  have pd262 : RdI z h256 (o + 1 + 2) := pd249.kept (fun q _ _ => f258 q (by omega))
  have pd263 : CmpS z h256 (o + 1 + 22) := pd250.kept (fun q _ _ => f258 q (by omega))
  have pd264 : HinS z h256 (o + 1 + 25) (o + 1 + 22) := pd251.kept (fun q _ _ => f258 q (by omega))
  have pd265 : MtC z h256 (o + 1 + 31) (o + 1 + 22) none none 0 0 := pd252.kept (fun q _ _ => f258 q (by omega))
  have pd266 : RmS z h256 (o + 1 + 40) 0 2 0 0 0 0 0 0 := pd253.kept (fun q _ _ => f258 q (by omega))
  have pd267 : BlmS z h256 (o + 1 + 40 + 3) 0 0 0 0 0 (fun _ => 0) := pd254.kept (fun q _ _ => f258 q (by omega))
  have pd268 : Ends0 z h256 (o + 1 + 40 + 5) 16 := pd255.kept (fun q _ _ => f258 q (by omega))
  have pd269 : RmS z h256 (o + 1 + 93) 0 2 0 0 0 0 0 0 := pd244a.kept (fun q _ _ => f258 q (by omega))
  have pd270 : BlmS z h256 (o + 1 + 93 + 3) 0 0 0 0 0 (fun _ => 0) := pd244b.kept (fun q _ _ => f258 q (by omega))
  have pd271 : Ends0 z h256 (o + 1 + 93 + 5) 16 := pd244c.kept (fun q _ _ => f258 q (by omega))
  refine ax_widen (k := 146) (n := 45698) (by omega) (by omega) ?_
  refine ax_vret hC hr hlocks dX11_init_126 ?_
  exact ⟨rfl, fun q hq => ((f258 q (by omega)).trans ((fr243 q (by omega)).trans ((f227 q (by omega)).trans ((f214 q (by omega)).trans ((fr202 q (by omega)).trans ((f189 q (by omega)).trans ((f179 q (by omega)).trans ((f169 q (by omega)).trans ((f160 q (by omega)).trans ((fr150 q (by omega)).trans ((f139 q (by omega)).trans ((f131 q (by omega)).trans ((fr122 q (by omega)).trans ((f112 q (by omega)).trans ((f105 q (by omega)).trans ((fr97 q (by omega)).trans ((f88 q (by omega)).trans ((f82 q (by omega)).trans ((fr74 q (by omega)).trans ((f65 q (by omega)).trans ((f59 q (by omega)).trans ((fr51 q (by omega)).trans ((f42 q (by omega)).trans ((f36 q (by omega)).trans ((fr29 q (by omega)).trans ((f21 q (by omega)).trans ((f16 q (by omega)).trans ((f11 q (by omega)).trans ((f7 q (by omega)).trans (f3 q (by omega))))))))))))))))))))))))))))))), ⟨e257, x259, x260, pd262, pd263, pd264, pd265, x261, pd266, pd267, pd268⟩⟩
