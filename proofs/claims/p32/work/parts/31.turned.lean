def emptyP : PT := (60, (fun _ => 0), (fun _ => 0), (fun _ => 0), (fun _ => 0), (fun _ => 0), (fun _ => 0), (fun _ => 0), (fun _ => 0))
abbrev rmX7_init : Room := { frames := 1, cells := 8, slots := 780, locals := 12 }
set_option maxRecDepth 100000 in
set_option maxHeartbeats 4000000 in
theorem c_X7_init (l : Launch) (D : va_G) (z : Nat → ClassId) (B : Heap) (lo hi : Nat) (h : Nat → Option va_E) (o : Nat) (ho : h o = some (.inr (9, [.int 0, .null, .null, .null, .null, .null, .null, .null, .null]))) (hhi : hi = o + 1) : Met l yX7_init wsX7_init rmX7_init (KP D vwCl B lo hi h (ty6 z) [.ref o]) (KQv D vwCl B lo (ty6 z) (fun hi' h' => hi' = o + 9 ∧ (∀ q, q < o → h' q = h q) ∧ PrC z h' o 0 emptyP)) 8 780 (fun q => lo ≤ q) := by
  subst hhi
  refine ax_met (by decide) rfl (Nat.le_of_ble_eq_true rfl) (L0 := [(0, .ref o)]) rfl ?_
  intro p e s m args below meth c hC hr hlocks hnm hargs
  have iX7 : ∀ w ∈ u_ws RX7 TX7 9, w ∈ wsX7_init := by decide +kernel
  refine ax_aload_n hC 0 dX7_init_0 rfl rfl ?_
  refine ax_objInit hC (by decide +kernel) (by decide +kernel) (by decide +kernel) dX7_init_1 (Nat.le_of_ble_eq_true rfl) (Nat.le_of_ble_eq_true rfl) ?_
  refine ax_aload_n hC 0 dX7_init_4 rfl rfl ?_
  refine ax_bipush (v := 60) hC dX7_init_5 (by decide) ?_
  refine ax_newa (a0 := (60, .inl (fun _ => 0))) (N' := 60) hC 1 rfl (by decide +kernel) rfl (fun C q => by cases q) (fun cA => by first | rfl | simp [vp_cell, arrV, defaultValue]) (by decide) (by decide) (Nat.le_of_ble_eq_true rfl) (Nat.le_of_ble_eq_true rfl) (Nat.le_of_ble_eq_true rfl) dX7_init_7 (fun h1 e2 f3 => ?_)
  have e2 : h1 (o + 1) = some (.inl (z 1, 60, .inl (fun _ => 0))) := e2
  have x4 : h1 o = some (.inr (9, [.int 0, .null, .null, .null, .null, .null, .null, .null, .null])) := (f3 _ (by omega)).trans ho
  refine ax_putF (v := .ref (o + 1)) (ty := .array .int) hC tyX7 x4 iX7 tyX7_ok nmX7 rfl 1 (by decide) (by decide +kernel) rfl rfl hnm rfl (by decide +kernel) (rfl) rfl (Nat.le_of_ble_eq_true rfl) dX7_init_9 (fun h5 e6 f7 => ?_)
  have e6 : h5 o = some (.inr (9, [.int 0, .ref (o + 1), .null, .null, .null, .null, .null, .null, .null])) := e6
  have x8 : h5 (o + 1) = some (.inl (z 1, 60, .inl (fun _ => 0))) := (f7 _ (by omega)).trans e2
  refine ax_aload_n hC 0 dX7_init_12 rfl rfl ?_
  refine ax_bipush (v := 60) hC dX7_init_13 (by decide) ?_
  refine ax_newa (a0 := (60, .inl (fun _ => 0))) (N' := 60) hC 1 rfl (by decide +kernel) rfl (fun C q => by cases q) (fun cA => by first | rfl | simp [vp_cell, arrV, defaultValue]) (by decide) (by decide) (Nat.le_of_ble_eq_true rfl) (Nat.le_of_ble_eq_true rfl) (Nat.le_of_ble_eq_true rfl) dX7_init_15 (fun h9 e10 f11 => ?_)
  have e10 : h9 (o + 1 + 1) = some (.inl (z 1, 60, .inl (fun _ => 0))) := e10
  have x12 : h9 (o + 1) = some (.inl (z 1, 60, .inl (fun _ => 0))) := (f11 _ (by omega)).trans x8
  have x13 : h9 o = some (.inr (9, [.int 0, .ref (o + 1), .null, .null, .null, .null, .null, .null, .null])) := (f11 _ (by omega)).trans e6
  refine ax_putF (v := .ref (o + 1 + 1)) (ty := .array .int) hC tyX7 x13 iX7 tyX7_ok nmX7 rfl 2 (by decide) (by decide +kernel) rfl rfl hnm rfl (by decide +kernel) (rfl) rfl (Nat.le_of_ble_eq_true rfl) dX7_init_17 (fun h14 e15 f16 => ?_)
  have e15 : h14 o = some (.inr (9, [.int 0, .ref (o + 1), .ref (o + 1 + 1), .null, .null, .null, .null, .null, .null])) := e15
  have x17 : h14 (o + 1) = some (.inl (z 1, 60, .inl (fun _ => 0))) := (f16 _ (by omega)).trans x12
  have x18 : h14 (o + 1 + 1) = some (.inl (z 1, 60, .inl (fun _ => 0))) := (f16 _ (by omega)).trans e10
  refine ax_aload_n hC 0 dX7_init_20 rfl rfl ?_
  refine ax_bipush (v := 60) hC dX7_init_21 (by decide) ?_
  refine ax_newa (a0 := (60, .inl (fun _ => 0))) (N' := 60) hC 1 rfl (by decide +kernel) rfl (fun C q => by cases q) (fun cA => by first | rfl | simp [vp_cell, arrV, defaultValue]) (by decide) (by decide) (Nat.le_of_ble_eq_true rfl) (Nat.le_of_ble_eq_true rfl) (Nat.le_of_ble_eq_true rfl) dX7_init_23 (fun h19 e20 f21 => ?_)
  have e20 : h19 (o + 1 + 2) = some (.inl (z 1, 60, .inl (fun _ => 0))) := e20
  have x22 : h19 (o + 1) = some (.inl (z 1, 60, .inl (fun _ => 0))) := (f21 _ (by omega)).trans x17
  have x23 : h19 (o + 1 + 1) = some (.inl (z 1, 60, .inl (fun _ => 0))) := (f21 _ (by omega)).trans x18
  have x24 : h19 o = some (.inr (9, [.int 0, .ref (o + 1), .ref (o + 1 + 1), .null, .null, .null, .null, .null, .null])) := (f21 _ (by omega)).trans e15
  refine ax_putF (v := .ref (o + 1 + 2)) (ty := .array .int) hC tyX7 x24 iX7 tyX7_ok nmX7 rfl 3 (by decide) (by decide +kernel) rfl rfl hnm rfl (by decide +kernel) (rfl) rfl (Nat.le_of_ble_eq_true rfl) dX7_init_25 (fun h25 e26 f27 => ?_)
  have e26 : h25 o = some (.inr (9, [.int 0, .ref (o + 1), .ref (o + 1 + 1), .ref (o + 1 + 2), .null, .null, .null, .null, .null])) := e26
  have x28 : h25 (o + 1) = some (.inl (z 1, 60, .inl (fun _ => 0))) := (f27 _ (by omega)).trans x22
  have x29 : h25 (o + 1 + 1) = some (.inl (z 1, 60, .inl (fun _ => 0))) := (f27 _ (by omega)).trans x23
  have x30 : h25 (o + 1 + 2) = some (.inl (z 1, 60, .inl (fun _ => 0))) := (f27 _ (by omega)).trans e20
  refine ax_aload_n hC 0 dX7_init_28 rfl rfl ?_
  refine ax_bipush (v := 60) hC dX7_init_29 (by decide) ?_
  refine ax_newa (a0 := (60, .inl (fun _ => 0))) (N' := 60) hC 1 rfl (by decide +kernel) rfl (fun C q => by cases q) (fun cA => by first | rfl | simp [vp_cell, arrV, defaultValue]) (by decide) (by decide) (Nat.le_of_ble_eq_true rfl) (Nat.le_of_ble_eq_true rfl) (Nat.le_of_ble_eq_true rfl) dX7_init_31 (fun h31 e32 f33 => ?_)
  have e32 : h31 (o + 1 + 3) = some (.inl (z 1, 60, .inl (fun _ => 0))) := e32
  have x34 : h31 (o + 1) = some (.inl (z 1, 60, .inl (fun _ => 0))) := (f33 _ (by omega)).trans x28
  have x35 : h31 (o + 1 + 1) = some (.inl (z 1, 60, .inl (fun _ => 0))) := (f33 _ (by omega)).trans x29
  have x36 : h31 (o + 1 + 2) = some (.inl (z 1, 60, .inl (fun _ => 0))) := (f33 _ (by omega)).trans x30
  have x37 : h31 o = some (.inr (9, [.int 0, .ref (o + 1), .ref (o + 1 + 1), .ref (o + 1 + 2), .null, .null, .null, .null, .null])) := (f33 _ (by omega)).trans e26
  refine ax_putF (v := .ref (o + 1 + 3)) (ty := .array .int) hC tyX7 x37 iX7 tyX7_ok nmX7 rfl 4 (by decide) (by decide +kernel) rfl rfl hnm rfl (by decide +kernel) (rfl) rfl (Nat.le_of_ble_eq_true rfl) dX7_init_33 (fun h38 e39 f40 => ?_)
  have e39 : h38 o = some (.inr (9, [.int 0, .ref (o + 1), .ref (o + 1 + 1), .ref (o + 1 + 2), .ref (o + 1 + 3), .null, .null, .null, .null])) := e39
  have x41 : h38 (o + 1) = some (.inl (z 1, 60, .inl (fun _ => 0))) := (f40 _ (by omega)).trans x34
  have x42 : h38 (o + 1 + 1) = some (.inl (z 1, 60, .inl (fun _ => 0))) := (f40 _ (by omega)).trans x35
  have x43 : h38 (o + 1 + 2) = some (.inl (z 1, 60, .inl (fun _ => 0))) := (f40 _ (by omega)).trans x36
  have x44 : h38 (o + 1 + 3) = some (.inl (z 1, 60, .inl (fun _ => 0))) := (f40 _ (by omega)).trans e32
  refine ax_aload_n hC 0 dX7_init_36 rfl rfl ?_
  refine ax_bipush (v := 60) hC dX7_init_37 (by decide) ?_
  refine ax_newa (a0 := (60, .inl (fun _ => 0))) (N' := 60) hC 1 rfl (by decide +kernel) rfl (fun C q => by cases q) (fun cA => by first | rfl | simp [vp_cell, arrV, defaultValue]) (by decide) (by decide) (Nat.le_of_ble_eq_true rfl) (Nat.le_of_ble_eq_true rfl) (Nat.le_of_ble_eq_true rfl) dX7_init_39 (fun h45 e46 f47 => ?_)
  have e46 : h45 (o + 1 + 4) = some (.inl (z 1, 60, .inl (fun _ => 0))) := e46
  have x48 : h45 (o + 1) = some (.inl (z 1, 60, .inl (fun _ => 0))) := (f47 _ (by omega)).trans x41
  have x49 : h45 (o + 1 + 1) = some (.inl (z 1, 60, .inl (fun _ => 0))) := (f47 _ (by omega)).trans x42
  have x50 : h45 (o + 1 + 2) = some (.inl (z 1, 60, .inl (fun _ => 0))) := (f47 _ (by omega)).trans x43
  have x51 : h45 (o + 1 + 3) = some (.inl (z 1, 60, .inl (fun _ => 0))) := (f47 _ (by omega)).trans x44
  have x52 : h45 o = some (.inr (9, [.int 0, .ref (o + 1), .ref (o + 1 + 1), .ref (o + 1 + 2), .ref (o + 1 + 3), .null, .null, .null, .null])) := (f47 _ (by omega)).trans e39
  refine ax_putF (v := .ref (o + 1 + 4)) (ty := .array .int) hC tyX7 x52 iX7 tyX7_ok nmX7 rfl 5 (by decide) (by decide +kernel) rfl rfl hnm rfl (by decide +kernel) (rfl) rfl (Nat.le_of_ble_eq_true rfl) dX7_init_41 (fun h53 e54 f55 => ?_)
  have e54 : h53 o = some (.inr (9, [.int 0, .ref (o + 1), .ref (o + 1 + 1), .ref (o + 1 + 2), .ref (o + 1 + 3), .ref (o + 1 + 4), .null, .null, .null])) := e54
  have x56 : h53 (o + 1) = some (.inl (z 1, 60, .inl (fun _ => 0))) := (f55 _ (by omega)).trans x48
  have x57 : h53 (o + 1 + 1) = some (.inl (z 1, 60, .inl (fun _ => 0))) := (f55 _ (by omega)).trans x49
  have x58 : h53 (o + 1 + 2) = some (.inl (z 1, 60, .inl (fun _ => 0))) := (f55 _ (by omega)).trans x50
  have x59 : h53 (o + 1 + 3) = some (.inl (z 1, 60, .inl (fun _ => 0))) := (f55 _ (by omega)).trans x51
  have x60 : h53 (o + 1 + 4) = some (.inl (z 1, 60, .inl (fun _ => 0))) := (f55 _ (by omega)).trans e46
  refine ax_aload_n hC 0 dX7_init_44 rfl rfl ?_
  refine ax_bipush (v := 60) hC dX7_init_45 (by decide) ?_
  refine ax_newa (a0 := (60, .inl (fun _ => 0))) (N' := 60) hC 1 rfl (by decide +kernel) rfl (fun C q => by cases q) (fun cA => by first | rfl | simp [vp_cell, arrV, defaultValue]) (by decide) (by decide) (Nat.le_of_ble_eq_true rfl) (Nat.le_of_ble_eq_true rfl) (Nat.le_of_ble_eq_true rfl) dX7_init_47 (fun h61 e62 f63 => ?_)
  have e62 : h61 (o + 1 + 5) = some (.inl (z 1, 60, .inl (fun _ => 0))) := e62
  have x64 : h61 (o + 1) = some (.inl (z 1, 60, .inl (fun _ => 0))) := (f63 _ (by omega)).trans x56
  have x65 : h61 (o + 1 + 1) = some (.inl (z 1, 60, .inl (fun _ => 0))) := (f63 _ (by omega)).trans x57
  have x66 : h61 (o + 1 + 2) = some (.inl (z 1, 60, .inl (fun _ => 0))) := (f63 _ (by omega)).trans x58
  have x67 : h61 (o + 1 + 3) = some (.inl (z 1, 60, .inl (fun _ => 0))) := (f63 _ (by omega)).trans x59
  have x68 : h61 (o + 1 + 4) = some (.inl (z 1, 60, .inl (fun _ => 0))) := (f63 _ (by omega)).trans x60
  have x69 : h61 o = some (.inr (9, [.int 0, .ref (o + 1), .ref (o + 1 + 1), .ref (o + 1 + 2), .ref (o + 1 + 3), .ref (o + 1 + 4), .null, .null, .null])) := (f63 _ (by omega)).trans e54
  refine ax_putF (v := .ref (o + 1 + 5)) (ty := .array .int) hC tyX7 x69 iX7 tyX7_ok nmX7 rfl 6 (by decide) (by decide +kernel) rfl rfl hnm rfl (by decide +kernel) (rfl) rfl (Nat.le_of_ble_eq_true rfl) dX7_init_49 (fun h70 e71 f72 => ?_)
  have e71 : h70 o = some (.inr (9, [.int 0, .ref (o + 1), .ref (o + 1 + 1), .ref (o + 1 + 2), .ref (o + 1 + 3), .ref (o + 1 + 4), .ref (o + 1 + 5), .null, .null])) := e71
  have x73 : h70 (o + 1) = some (.inl (z 1, 60, .inl (fun _ => 0))) := (f72 _ (by omega)).trans x64
  have x74 : h70 (o + 1 + 1) = some (.inl (z 1, 60, .inl (fun _ => 0))) := (f72 _ (by omega)).trans x65
  have x75 : h70 (o + 1 + 2) = some (.inl (z 1, 60, .inl (fun _ => 0))) := (f72 _ (by omega)).trans x66
  have x76 : h70 (o + 1 + 3) = some (.inl (z 1, 60, .inl (fun _ => 0))) := (f72 _ (by omega)).trans x67
  have x77 : h70 (o + 1 + 4) = some (.inl (z 1, 60, .inl (fun _ => 0))) := (f72 _ (by omega)).trans x68
  have x78 : h70 (o + 1 + 5) = some (.inl (z 1, 60, .inl (fun _ => 0))) := (f72 _ (by omega)).trans e62
  refine ax_aload_n hC 0 dX7_init_52 rfl rfl ?_
  refine ax_sipush (v := 360) hC dX7_init_53 (by decide) ?_
  refine ax_newa (a0 := (360, .inl (fun _ => 0))) (N' := 360) hC 1 rfl (by decide +kernel) rfl (fun C q => by cases q) (fun cA => by first | rfl | simp [vp_cell, arrV, defaultValue]) (by decide) (by decide) (Nat.le_of_ble_eq_true rfl) (Nat.le_of_ble_eq_true rfl) (Nat.le_of_ble_eq_true rfl) dX7_init_56 (fun h79 e80 f81 => ?_)
  have e80 : h79 (o + 1 + 6) = some (.inl (z 1, 360, .inl (fun _ => 0))) := e80
  have x82 : h79 (o + 1) = some (.inl (z 1, 60, .inl (fun _ => 0))) := (f81 _ (by omega)).trans x73
  have x83 : h79 (o + 1 + 1) = some (.inl (z 1, 60, .inl (fun _ => 0))) := (f81 _ (by omega)).trans x74
  have x84 : h79 (o + 1 + 2) = some (.inl (z 1, 60, .inl (fun _ => 0))) := (f81 _ (by omega)).trans x75
  have x85 : h79 (o + 1 + 3) = some (.inl (z 1, 60, .inl (fun _ => 0))) := (f81 _ (by omega)).trans x76
  have x86 : h79 (o + 1 + 4) = some (.inl (z 1, 60, .inl (fun _ => 0))) := (f81 _ (by omega)).trans x77
  have x87 : h79 (o + 1 + 5) = some (.inl (z 1, 60, .inl (fun _ => 0))) := (f81 _ (by omega)).trans x78
  have x88 : h79 o = some (.inr (9, [.int 0, .ref (o + 1), .ref (o + 1 + 1), .ref (o + 1 + 2), .ref (o + 1 + 3), .ref (o + 1 + 4), .ref (o + 1 + 5), .null, .null])) := (f81 _ (by omega)).trans e71
  refine ax_putF (v := .ref (o + 1 + 6)) (ty := .array .int) hC tyX7 x88 iX7 tyX7_ok nmX7 rfl 7 (by decide) (by decide +kernel) rfl rfl hnm rfl (by decide +kernel) (rfl) rfl (Nat.le_of_ble_eq_true rfl) dX7_init_58 (fun h89 e90 f91 => ?_)
  have e90 : h89 o = some (.inr (9, [.int 0, .ref (o + 1), .ref (o + 1 + 1), .ref (o + 1 + 2), .ref (o + 1 + 3), .ref (o + 1 + 4), .ref (o + 1 + 5), .ref (o + 1 + 6), .null])) := e90
  have x92 : h89 (o + 1) = some (.inl (z 1, 60, .inl (fun _ => 0))) := (f91 _ (by omega)).trans x82
  have x93 : h89 (o + 1 + 1) = some (.inl (z 1, 60, .inl (fun _ => 0))) := (f91 _ (by omega)).trans x83
  have x94 : h89 (o + 1 + 2) = some (.inl (z 1, 60, .inl (fun _ => 0))) := (f91 _ (by omega)).trans x84
  have x95 : h89 (o + 1 + 3) = some (.inl (z 1, 60, .inl (fun _ => 0))) := (f91 _ (by omega)).trans x85
  have x96 : h89 (o + 1 + 4) = some (.inl (z 1, 60, .inl (fun _ => 0))) := (f91 _ (by omega)).trans x86
  have x97 : h89 (o + 1 + 5) = some (.inl (z 1, 60, .inl (fun _ => 0))) := (f91 _ (by omega)).trans x87
  have x98 : h89 (o + 1 + 6) = some (.inl (z 1, 360, .inl (fun _ => 0))) := (f91 _ (by omega)).trans e80
  refine ax_aload_n hC 0 dX7_init_61 rfl rfl ?_
  refine ax_bipush (v := 60) hC dX7_init_62 (by decide) ?_
  refine ax_newa (a0 := (60, .inl (fun _ => 0))) (N' := 60) hC 1 rfl (by decide +kernel) rfl (fun C q => by cases q) (fun cA => by first | rfl | simp [vp_cell, arrV, defaultValue]) (by decide) (by decide) (Nat.le_of_ble_eq_true rfl) (Nat.le_of_ble_eq_true rfl) (Nat.le_of_ble_eq_true rfl) dX7_init_64 (fun h99 e100 f101 => ?_)
  have e100 : h99 (o + 1 + 7) = some (.inl (z 1, 60, .inl (fun _ => 0))) := e100
  have x102 : h99 (o + 1) = some (.inl (z 1, 60, .inl (fun _ => 0))) := (f101 _ (by omega)).trans x92
  have x103 : h99 (o + 1 + 1) = some (.inl (z 1, 60, .inl (fun _ => 0))) := (f101 _ (by omega)).trans x93
  have x104 : h99 (o + 1 + 2) = some (.inl (z 1, 60, .inl (fun _ => 0))) := (f101 _ (by omega)).trans x94
  have x105 : h99 (o + 1 + 3) = some (.inl (z 1, 60, .inl (fun _ => 0))) := (f101 _ (by omega)).trans x95
  have x106 : h99 (o + 1 + 4) = some (.inl (z 1, 60, .inl (fun _ => 0))) := (f101 _ (by omega)).trans x96
  have x107 : h99 (o + 1 + 5) = some (.inl (z 1, 60, .inl (fun _ => 0))) := (f101 _ (by omega)).trans x97
  have x108 : h99 (o + 1 + 6) = some (.inl (z 1, 360, .inl (fun _ => 0))) := (f101 _ (by omega)).trans x98
  have x109 : h99 o = some (.inr (9, [.int 0, .ref (o + 1), .ref (o + 1 + 1), .ref (o + 1 + 2), .ref (o + 1 + 3), .ref (o + 1 + 4), .ref (o + 1 + 5), .ref (o + 1 + 6), .null])) := (f101 _ (by omega)).trans e90
  refine ax_putF (v := .ref (o + 1 + 7)) (ty := .array .int) hC tyX7 x109 iX7 tyX7_ok nmX7 rfl 8 (by decide) (by decide +kernel) rfl rfl hnm rfl (by decide +kernel) (rfl) rfl (Nat.le_of_ble_eq_true rfl) dX7_init_66 (fun h110 e111 f112 => ?_)
  have e111 : h110 o = some (.inr (9, [.int 0, .ref (o + 1), .ref (o + 1 + 1), .ref (o + 1 + 2), .ref (o + 1 + 3), .ref (o + 1 + 4), .ref (o + 1 + 5), .ref (o + 1 + 6), .ref (o + 1 + 7)])) := e111
  have x113 : h110 (o + 1) = some (.inl (z 1, 60, .inl (fun _ => 0))) := (f112 _ (by omega)).trans x102
  have x114 : h110 (o + 1 + 1) = some (.inl (z 1, 60, .inl (fun _ => 0))) := (f112 _ (by omega)).trans x103
  have x115 : h110 (o + 1 + 2) = some (.inl (z 1, 60, .inl (fun _ => 0))) := (f112 _ (by omega)).trans x104
  have x116 : h110 (o + 1 + 3) = some (.inl (z 1, 60, .inl (fun _ => 0))) := (f112 _ (by omega)).trans x105
  have x117 : h110 (o + 1 + 4) = some (.inl (z 1, 60, .inl (fun _ => 0))) := (f112 _ (by omega)).trans x106
  have x118 : h110 (o + 1 + 5) = some (.inl (z 1, 60, .inl (fun _ => 0))) := (f112 _ (by omega)).trans x107
  have x119 : h110 (o + 1 + 6) = some (.inl (z 1, 360, .inl (fun _ => 0))) := (f112 _ (by omega)).trans x108
  have x120 : h110 (o + 1 + 7) = some (.inl (z 1, 60, .inl (fun _ => 0))) := (f112 _ (by omega)).trans e100
  refine ax_widen (k := 8) (n := 780) (by omega) (by omega) ?_
  refine ax_vret hC hr hlocks dX7_init_69 ?_
  exact ⟨rfl, fun q hq => ((f112 q (by omega)).trans ((f101 q (by omega)).trans ((f91 q (by omega)).trans ((f81 q (by omega)).trans ((f72 q (by omega)).trans ((f63 q (by omega)).trans ((f55 q (by omega)).trans ((f47 q (by omega)).trans ((f40 q (by omega)).trans ((f33 q (by omega)).trans ((f27 q (by omega)).trans ((f21 q (by omega)).trans ((f16 q (by omega)).trans ((f11 q (by omega)).trans ((f7 q (by omega)).trans (f3 q (by omega))))))))))))))))), e111, x113, x114, x115, x116, x117, x118, x119, x120⟩

theorem turn_done {T T1 : PT} {g : Nat → Int32} {k : Nat} (hcd : CopyD T T1 (pcap T)) (hg : ∀ i, i < pcap T → g i = if i < k ∧ pDp T i = 0 then turnK (pK T i) else pK T i) (hk : pcap T ≤ k) : TurnD T (pcap T, g, pS T1, pLt T1, pLb T1, pDp T1, pIn T1, pBr T1, pSt T1) := by
  refine ⟨rfl, fun i hi => ?_, hcd.2.2, fun i hi => ?_⟩
  · obtain ⟨-, a, -, b, c, d, e⟩ := hcd.2.1 i hi
    exact ⟨a, b, c, d, e⟩
  · have h1 := hg i hi
    by_cases hd : pDp T i = 0
    · rw [if_pos ⟨by omega, hd⟩] at h1; rw [if_pos hd]; exact h1
    · rw [if_neg (fun q => hd q.2)] at h1; rw [if_neg hd]; exact h1
theorem turn_put {T : PT} {g : Nat → Int32} {k : Nat} (hg : ∀ i, i < pcap T → g i = if i < k ∧ pDp T i = 0 then turnK (pK T i) else pK T i) (hk : k < pcap T) (hd : pDp T k = 0) : ∀ i, i < pcap T → upd g k (turnK (g k)) i = if i < k + 1 ∧ pDp T i = 0 then turnK (pK T i) else pK T i := by
  intro i hi
  by_cases he : i = k
  · subst he
    have h1 := hg i hi
    rw [if_neg (fun q => absurd q.1 (by omega))] at h1
    rw [if_pos ⟨by omega, hd⟩, ← h1]
    simp [upd]
  · have h1 := hg i hi
    simp only [upd, if_neg he]
    rw [h1]
    by_cases h2 : i < k ∧ pDp T i = 0
    · rw [if_pos h2, if_pos ⟨by omega, h2.2⟩]
    · rw [if_neg h2, if_neg (fun q => h2 ⟨by omega, q.2⟩)]
theorem turn_skip {T : PT} {g : Nat → Int32} {k : Nat} (hg : ∀ i, i < pcap T → g i = if i < k ∧ pDp T i = 0 then turnK (pK T i) else pK T i) (hd : ¬ pDp T k = 0) : ∀ i, i < pcap T → g i = if i < k + 1 ∧ pDp T i = 0 then turnK (pK T i) else pK T i := by
  intro i hi
  rw [hg i hi]
  by_cases h2 : i < k ∧ pDp T i = 0
  · rw [if_pos h2, if_pos ⟨by omega, h2.2⟩]
  · rw [if_neg h2, if_neg (fun q => h2 ⟨by
      have : i ≠ k := fun e => hd (e ▸ q.2)
      omega, q.2⟩)]
abbrev rmX7_turned : Room := { frames := 3, cells := 9, slots := 2889, locals := 84 }
set_option maxRecDepth 100000 in
set_option maxHeartbeats 4000000 in
theorem c_X7_turned (l : Launch) (D : va_G) (z : Nat → ClassId) (B : Heap) (lo hi : Nat) (h : Nat → Option va_E) (a : Nat) (T : PT) (hP : PrC z h a (nI (pcap T)) T) (hcap : pcap T ≤ 60) : Met l yX7_turned wsX7_turned rmX7_turned (KP D vwCl B lo hi h (ty6 z) [.ref a]) (KQq D vwCl B lo (ty6 z) (fun r hi' h' => hi' = hi + 9 ∧ (∀ q, q < hi → h' q = h q) ∧ r = some hi ∧ ∃ T', TurnD T T' ∧ PrC z h' hi (nI (pcap T)) T')) 9 2889 (fun q => lo ≤ q) := by
  refine ax_met (by decide) rfl (Nat.le_of_ble_eq_true rfl) (L0 := [(0, .ref a)]) rfl ?_
  intro p e s m args below meth c hC hr hlocks hnm hargs
  have iX7 : ∀ w ∈ u_ws RX7 TX7 9, w ∈ wsX7_turned := by decide +kernel
  refine ax_tell hP.2.2.2.2.2.2.2.2 (fun ta_0 => ?_)
  have LP : ∀ (n : Nat) (T1 : PT) (k : Nat) (hX : Nat → Option va_E) (g : Nat → Int32), k + n = pcap T → CopyD T T1 (pcap T) → (∀ q, q < hi → hX q = h q) → PrC z hX hi (nI (pcap T)) (pcap T, g, pS T1, pLt T1, pLb T1, pDp T1, pIn T1, pBr T1, pSt T1) → (∀ i, i < pcap T → g i = if i < k ∧ pDp T i = 0 then turnK (pK T i) else pK T i) → Gx p l e rmX7_turned s m args below meth c D vwCl B lo 3 (MQ below (KQq D vwCl B lo (ty6 z) (fun r hi' h' => hi' = hi + 9 ∧ (∀ q, q < hi → h' q = h q) ∧ r = some hi ∧ ∃ T', TurnD T T' ∧ PrC z h' hi (nI (pcap T)) T')) args s 9 2889 (fun q => lo ≤ q)) (hi + 9) hX (0 + 1 + 8) (0 + 9 + 2880) [(2, .int (nI k)), (1, .ref hi), (0, .ref a)] 11 [] := by
    intro n
    induction n with
    | zero =>
      intro T1 k hX g hkn hcd hfr hPX hg
      refine ax_iload_n hC 0 dX7_turned_11 rfl rfl ?_
      refine ax_aload_n hC 1 dX7_turned_12 rfl rfl ?_
      refine ax_getf (v := .ref (hi + 1)) hC hPX.1 iX7 rfl 1 (by decide) (by decide +kernel) rfl rfl dX7_turned_13 ?_
      refine ax_alen (v := nI (pcap T)) hC hPX.2.1 1 rfl rfl dX7_turned_16 ?_
      refine ax_icmp_ge (tgt := 59) hC dX7_turned_17 (by decide) (fun c101001 => ?_) (fun c101001 => ?_)
      · refine ax_aload_n hC 1 dX7_turned_59 rfl rfl ?_
        refine ax_widen (k := 9) (n := 2889) (by omega) (by omega) ?_
        refine ax_aret hC (some hi) hr hlocks dX7_turned_60 ?_
        exact ⟨rfl, (fun q hq => (hfr q hq)), rfl, _, turn_done hcd hg (by omega), hPX.1, hPX.2.1, hPX.2.2.1, hPX.2.2.2.1, hPX.2.2.2.2.1, hPX.2.2.2.2.2.1, hPX.2.2.2.2.2.2.1, hPX.2.2.2.2.2.2.2.1, hPX.2.2.2.2.2.2.2.2⟩
      · exact absurd (nI_le (by omega) (by omega)) c101001
    | succ n ih =>
      intro T1 k hX g hkn hcd hfr hPX hg
      refine ax_iload_n hC 0 dX7_turned_11 rfl rfl ?_
      refine ax_aload_n hC 1 dX7_turned_12 rfl rfl ?_
      refine ax_getf (v := .ref (hi + 1)) hC hPX.1 iX7 rfl 1 (by decide) (by decide +kernel) rfl rfl dX7_turned_13 ?_
      refine ax_alen (v := nI (pcap T)) hC hPX.2.1 1 rfl rfl dX7_turned_16 ?_
      refine ax_icmp_ge (tgt := 59) hC dX7_turned_17 (by decide) (fun c102001 => ?_) (fun c102001 => ?_)
      · exact absurd c102001 (nI_ge (by omega) (by omega))
      · refine ax_iload_n hC 0 dX7_turned_20 rfl rfl ?_
        refine ax_aload_n hC 1 dX7_turned_21 rfl rfl ?_
        refine ax_getf (v := .ref (hi + 5)) hC hPX.1 iX7 rfl 5 (by decide) (by decide +kernel) rfl rfl dX7_turned_22 ?_
        refine ax_alen (v := nI (pcap T)) hC hPX.2.2.2.2.2.1 1 rfl rfl dX7_turned_25 ?_
        refine ax_icmp_ge (tgt := 59) hC dX7_turned_26 (by decide) (fun c102002 => ?_) (fun c102002 => ?_)
        · exact absurd c102002 c102001
        · refine ax_aload_n hC 1 dX7_turned_29 rfl rfl ?_
          refine ax_getf (v := .ref (hi + 5)) hC hPX.1 iX7 rfl 5 (by decide) (by decide +kernel) rfl rfl dX7_turned_30 ?_
          refine ax_iload_n hC 0 dX7_turned_33 rfl rfl ?_
          have b102003 : vp_in (nI k) (pcap T) := vp_in_nI (by omega) (by omega)
          refine ax_iald hC hPX.2.2.2.2.2.1 1 rfl b102003 dX7_turned_34 ?_
          refine ax_eqi (y := (pDp T1) k) (by rw [nI_clamp (by omega)] <;> rfl) ?_
          refine ax_if_ne (tgt := 53) hC dX7_turned_35 (by decide) (fun c102004 => ?_) (fun c102004 => ?_)
          · refine ax_iinc (v := nI (k + 1)) hC 0 [(2, .int (nI (k + 1))), (1, .ref hi), (0, .ref a)] dX7_turned_53 rfl (nI_1 _) (by decide) rfl ?_
            refine ax_goto (tgt := 11) hC dX7_turned_56 (by decide) ?_
            refine ax_locals [0, 1, 2] (L' := [(2, .int (nI (k + 1))), (1, .ref hi), (0, .ref a)]) rfl ?_
            exact ih T1 (k + 1) hX (g) (by omega) hcd (fun q hq => (hfr q hq)) ⟨hPX.1, hPX.2.1, hPX.2.2.1, hPX.2.2.2.1, hPX.2.2.2.2.1, hPX.2.2.2.2.2.1, hPX.2.2.2.2.2.2.1, hPX.2.2.2.2.2.2.2.1, hPX.2.2.2.2.2.2.2.2⟩ (turn_skip hg (fun q9 => c102004 ((hcd.2.1 k (by omega)).2.2.2.2.1.trans q9)))
          · refine ax_aload_n hC 1 dX7_turned_38 rfl rfl ?_
            refine ax_getf (v := .ref (hi + 1)) hC hPX.1 iX7 rfl 1 (by decide) (by decide +kernel) rfl rfl dX7_turned_39 ?_
            refine ax_iload_n hC 0 dX7_turned_42 rfl rfl ?_
            refine ax_aload_n hC 1 dX7_turned_43 rfl rfl ?_
            refine ax_getf (v := .ref (hi + 1)) hC hPX.1 iX7 rfl 1 (by decide) (by decide +kernel) rfl rfl dX7_turned_44 ?_
            refine ax_iload_n hC 0 dX7_turned_47 rfl rfl ?_
            have b102006 : vp_in (nI k) (pcap T) := vp_in_nI (by omega) (by omega)
            refine ax_iald hC hPX.2.1 1 rfl b102006 dX7_turned_48 ?_
            refine ax_eqi (y := g k) (by rw [nI_clamp (by omega)] <;> rfl) ?_
            refine ax_callSp (st := [.int (nI k), .ref (hi + 1)]) hC [.int (g k)] (c_X7_turnedKind l D z B lo _ hX (g k)) (va_cwS 1 hC.1.2.2.2.2 gX7_turned_X7_turnedKind rfl rfl rfl (by decide +kernel) ⟨Nat.le_of_ble_eq_true rfl, Nat.le_of_ble_eq_true rfl⟩) rfl rfl (Nat.le_of_ble_eq_true rfl) dX7_turned_49 ⟨Nat.le_of_ble_eq_true rfl, Nat.le_of_ble_eq_true rfl⟩ (fun r102007 er102008 => ?_)
            subst er102008
            have b102009 : vp_in (nI k) (pcap T) := vp_in_nI (by omega) (by omega)
            refine ax_iast hC hPX.2.1 1 rfl b102009 dX7_turned_52 (fun h102010 e102011 f102012 => ?_)
            rw [nI_clamp (by omega)] at e102011
            have x102013 : h102010 hi = some (.inr (9, [.int (nI (pcap T)), .ref (hi + 1), .ref (hi + 2), .ref (hi + 3), .ref (hi + 4), .ref (hi + 5), .ref (hi + 6), .ref (hi + 7), .ref (hi + 8)])) := (f102012 _ (by omega)).trans hPX.1
            have x102014 : h102010 (hi + 2) = some (.inl (z 1, pcap T, .inl (pS T1))) := (f102012 _ (by omega)).trans hPX.2.2.1
            have x102015 : h102010 (hi + 3) = some (.inl (z 1, pcap T, .inl (pLt T1))) := (f102012 _ (by omega)).trans hPX.2.2.2.1
            have x102016 : h102010 (hi + 4) = some (.inl (z 1, pcap T, .inl (pLb T1))) := (f102012 _ (by omega)).trans hPX.2.2.2.2.1
            have x102017 : h102010 (hi + 5) = some (.inl (z 1, pcap T, .inl (pDp T1))) := (f102012 _ (by omega)).trans hPX.2.2.2.2.2.1
            have x102018 : h102010 (hi + 6) = some (.inl (z 1, pcap T, .inl (pIn T1))) := (f102012 _ (by omega)).trans hPX.2.2.2.2.2.2.1
            have x102019 : h102010 (hi + 7) = some (.inl (z 1, 6 * pcap T, .inl (pBr T1))) := (f102012 _ (by omega)).trans hPX.2.2.2.2.2.2.2.1
            have x102020 : h102010 (hi + 8) = some (.inl (z 1, pcap T, .inl (pSt T1))) := (f102012 _ (by omega)).trans hPX.2.2.2.2.2.2.2.2
            refine ax_iinc (v := nI (k + 1)) hC 0 [(2, .int (nI (k + 1))), (1, .ref hi), (0, .ref a)] dX7_turned_53 rfl (nI_1 _) (by decide) rfl ?_
            refine ax_goto (tgt := 11) hC dX7_turned_56 (by decide) ?_
            refine ax_locals [0, 1, 2] (L' := [(2, .int (nI (k + 1))), (1, .ref hi), (0, .ref a)]) rfl ?_
            exact ih T1 (k + 1) h102010 (upd g k (turnK (g k))) (by omega) hcd (fun q hq => ((f102012 q (by omega)).trans (hfr q hq))) ⟨x102013, e102011, x102014, x102015, x102016, x102017, x102018, x102019, x102020⟩ (turn_put hg (by omega) ((hcd.2.1 k (by omega)).2.2.2.2.1.symm.trans c102004))
  refine ax_new (C := RX7) (T := TX7) (N := 9) (ci := 9) (fs := [.int 0, .null, .null, .null, .null, .null, .null, .null, .null]) hC tyX7 iX7 tyX7_ok (by decide +kernel) (by decide +kernel) (by decide +kernel) rfl (fun j hj => by rcases (show j = 0 ∨ j = 1 ∨ j = 2 ∨ j = 3 ∨ j = 4 ∨ j = 5 ∨ j = 6 ∨ j = 7 ∨ j = 8 by omega) with rfl | rfl | rfl | rfl | rfl | rfl | rfl | rfl | rfl <;> rfl) (Nat.le_of_ble_eq_true rfl) (Nat.le_of_ble_eq_true rfl) dX7_turned_0 (fun h1 e2 f3 => ?_)
  have e2 : h1 hi = some (.inr (9, [.int 0, .null, .null, .null, .null, .null, .null, .null, .null])) := e2
  have hp_4 : PrC z h1 a _ T := hP.kept (fun q _ _ => f3 q (by omega))
  refine ax_dup hC dX7_turned_3 rfl ?_
  refine ax_aload_n hC 0 dX7_turned_4 rfl rfl ?_
  refine ax_callI (st := [.ref hi]) hC [.ref a] (c_X7_init_ l D z B lo _ h1 hi a (pcap T) (nI (pcap T)) T e2 hp_4 (Nat.le_refl _) hcap (by omega) rfl) (cwI 1 hC.1.2.2.2.2 gX7_turned_X7_init_ rfl rfl rfl (hC.1.2.2.2.2 _ (by decide +kernel)) (hC.1.2.2.2.2 _ (by decide +kernel)) (hC.1.2.2.2.2 _ (by decide +kernel)) rfl (by decide +kernel) ⟨Nat.le_of_ble_eq_true rfl, Nat.le_of_ble_eq_true rfl⟩) rfl rfl (Nat.le_of_ble_eq_true rfl) dX7_turned_5 ⟨Nat.le_of_ble_eq_true rfl, Nat.le_of_ble_eq_true rfl⟩ (fun hi5 h6 hp7 => ?_)
  obtain ⟨ei8, fr9, T10, cd11, pr12⟩ := hp7
  subst ei8
  have hp_13 : PrC z h6 a _ T := hp_4.kept (fun q _ _ => fr9 q (by omega))
  refine ax_astore_n hC [(1, .ref hi), (0, .ref a)] dX7_turned_8 rfl (by decide) rfl ?_
  refine ax_iconst (v := 0) hC dX7_turned_9 (by decide) ?_
  refine ax_istore_n hC [(2, .int 0), (1, .ref hi), (0, .ref a)] dX7_turned_10 rfl (by decide) rfl ?_
  refine ax_locals [0, 1, 2] (L' := [(2, .int 0), (1, .ref hi), (0, .ref a)]) rfl ?_
  obtain ⟨cd111, cd112, cd113⟩ := id cd11
  exact LP (pcap T) T10 0 h6 (pK T10) (by omega) cd11 (fun q hq => ((fr9 q (by omega)).trans (f3 q (by omega)))) (by have q9 := pr12; rw [PrC, cd111] at q9; exact q9) (fun i hi9 => by rw [if_neg (fun q9 => absurd q9.1 (by omega))]; exact (cd112 i hi9).1)
