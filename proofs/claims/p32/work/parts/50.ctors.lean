abbrev rmX0_init : Room := { frames := 1, cells := 1, slots := 3, locals := 12 }
set_option maxRecDepth 100000 in
set_option maxHeartbeats 4000000 in
theorem c_X0_init (l : Launch) (D : va_G) (z : Nat → ClassId) (B : Heap) (lo hi : Nat) (h : Nat → Option va_E) (o : Nat) (ho : h o = some (.inr (2, [.int 0, .int 0, .int 0, .int 0, .int 0, .null]))) (hhi : hi = o + 1) : Met l yX0_init wsX0_init rmX0_init (KP D vwCl B lo hi h (ty6 z) [.ref o]) (KQv D vwCl B lo (ty6 z) (fun hi' h' => hi' = o + 2 ∧ (∀ q, q < o → h' q = h q) ∧ BlmS z h' o 0 0 0 0 0 (fun _ => 0))) 1 3 (fun q => lo ≤ q) := by
  subst hhi
  refine ax_met (by decide) rfl (Nat.le_of_ble_eq_true rfl) (L0 := [(0, .ref o)]) rfl ?_
  intro p e s m args below meth c hC hr hlocks hnm hargs
  have iX0 : ∀ w ∈ u_ws RX0 TX0 6, w ∈ wsX0_init := by decide +kernel
  refine ax_aload_n hC 0 dX0_init_0 rfl rfl ?_
  refine ax_objInit hC (by decide +kernel) (by decide +kernel) (by decide +kernel) dX0_init_1 (Nat.le_of_ble_eq_true rfl) (Nat.le_of_ble_eq_true rfl) ?_
  refine ax_aload_n hC 0 dX0_init_4 rfl rfl ?_
  refine ax_iconst (v := 3) hC dX0_init_5 (by decide) ?_
  refine ax_newa (a0 := (3, .inl (fun _ => 0))) (N' := 3) hC 1 rfl (by decide +kernel) rfl (fun C q => by cases q) (fun cA => by first | rfl | simp [vp_cell, arrV, defaultValue]) (by decide) (by decide) (Nat.le_of_ble_eq_true rfl) (Nat.le_of_ble_eq_true rfl) (Nat.le_of_ble_eq_true rfl) dX0_init_6 (fun h1 e2 f3 => ?_)
  have e2 : h1 (o + 1) = some (.inl (z 1, 3, .inl (fun _ => 0))) := e2
  have x4 : h1 o = some (.inr (2, [.int 0, .int 0, .int 0, .int 0, .int 0, .null])) := (f3 _ (by omega)).trans ho
  refine ax_putF (v := .ref (o + 1)) (ty := .array .int) hC tyX0 x4 iX0 tyX0_ok nmX0 rfl 5 (by decide) (by decide +kernel) rfl rfl hnm rfl (by decide +kernel) (rfl) rfl (Nat.le_of_ble_eq_true rfl) dX0_init_8 (fun h5 e6 f7 => ?_)
  have e6 : h5 o = some (.inr (2, [.int 0, .int 0, .int 0, .int 0, .int 0, .ref (o + 1)])) := e6
  have x8 : h5 (o + 1) = some (.inl (z 1, 3, .inl (fun _ => 0))) := (f7 _ (by omega)).trans e2
  refine ax_widen (k := 1) (n := 3) (by omega) (by omega) ?_
  refine ax_vret hC hr hlocks dX0_init_11 ?_
  exact ⟨rfl, fun q hq => ((f7 q (by omega)).trans (f3 q (by omega))), e6, x8⟩

abbrev rmX1_init : Room := { frames := 1, cells := 2, slots := 7320, locals := 12 }
set_option maxRecDepth 100000 in
set_option maxHeartbeats 4000000 in
theorem c_X1_init (l : Launch) (D : va_G) (z : Nat → ClassId) (B : Heap) (lo hi : Nat) (h : Nat → Option va_E) (o : Nat) (ho : h o = some (.inr (3, [.null, .null, .int 0]))) (hhi : hi = o + 1) : Met l yX1_init wsX1_init rmX1_init (KP D vwCl B lo hi h (ty6 z) [.ref o]) (KQv D vwCl B lo (ty6 z) (fun hi' h' => hi' = o + 3 ∧ (∀ q, q < o → h' q = h q) ∧ CmpS z h' o)) 2 7320 (fun q => lo ≤ q) := by
  subst hhi
  refine ax_met (by decide) rfl (Nat.le_of_ble_eq_true rfl) (L0 := [(0, .ref o)]) rfl ?_
  intro p e s m args below meth c hC hr hlocks hnm hargs
  have iX1 : ∀ w ∈ u_ws RX1 TX1 3, w ∈ wsX1_init := by decide +kernel
  refine ax_aload_n hC 0 dX1_init_0 rfl rfl ?_
  refine ax_objInit hC (by decide +kernel) (by decide +kernel) (by decide +kernel) dX1_init_1 (Nat.le_of_ble_eq_true rfl) (Nat.le_of_ble_eq_true rfl) ?_
  refine ax_aload_n hC 0 dX1_init_4 rfl rfl ?_
  refine ax_bipush (v := 120) hC dX1_init_5 (by decide) ?_
  refine ax_newa (a0 := (120, .inr (.inl (fun _ => 0)))) (N' := 120) hC 2 rfl (by decide +kernel) rfl (fun C q => by cases q) (fun cA => by first | rfl | simp [vp_cell, arrV, defaultValue]) (by decide) (by decide) (Nat.le_of_ble_eq_true rfl) (Nat.le_of_ble_eq_true rfl) (Nat.le_of_ble_eq_true rfl) dX1_init_7 (fun h1 e2 f3 => ?_)
  have e2 : h1 (o + 1) = some (.inl (z 2, 120, .inr (.inl (fun _ => 0)))) := e2
  have x4 : h1 o = some (.inr (3, [.null, .null, .int 0])) := (f3 _ (by omega)).trans ho
  refine ax_putF (v := .ref (o + 1)) (ty := .array .long) hC tyX1 x4 iX1 tyX1_ok nmX1 rfl 0 (by decide) (by decide +kernel) rfl rfl hnm rfl (by decide +kernel) (rfl) rfl (Nat.le_of_ble_eq_true rfl) dX1_init_9 (fun h5 e6 f7 => ?_)
  have e6 : h5 o = some (.inr (3, [.ref (o + 1), .null, .int 0])) := e6
  have x8 : h5 (o + 1) = some (.inl (z 2, 120, .inr (.inl (fun _ => 0)))) := (f7 _ (by omega)).trans e2
  refine ax_aload_n hC 0 dX1_init_12 rfl rfl ?_
  refine ax_sipush (v := 7200) hC dX1_init_13 (by decide) ?_
  refine ax_newa (a0 := (7200, .inl (fun _ => 0))) (N' := 7200) hC 1 rfl (by decide +kernel) rfl (fun C q => by cases q) (fun cA => by first | rfl | simp [vp_cell, arrV, defaultValue]) (by decide) (by decide) (Nat.le_of_ble_eq_true rfl) (Nat.le_of_ble_eq_true rfl) (Nat.le_of_ble_eq_true rfl) dX1_init_16 (fun h9 e10 f11 => ?_)
  have e10 : h9 (o + 1 + 1) = some (.inl (z 1, 7200, .inl (fun _ => 0))) := e10
  have x12 : h9 (o + 1) = some (.inl (z 2, 120, .inr (.inl (fun _ => 0)))) := (f11 _ (by omega)).trans x8
  have x13 : h9 o = some (.inr (3, [.ref (o + 1), .null, .int 0])) := (f11 _ (by omega)).trans e6
  refine ax_putF (v := .ref (o + 1 + 1)) (ty := .array .int) hC tyX1 x13 iX1 tyX1_ok nmX1 rfl 1 (by decide) (by decide +kernel) rfl rfl hnm rfl (by decide +kernel) (rfl) rfl (Nat.le_of_ble_eq_true rfl) dX1_init_18 (fun h14 e15 f16 => ?_)
  have e15 : h14 o = some (.inr (3, [.ref (o + 1), .ref (o + 1 + 1), .int 0])) := e15
  have x17 : h14 (o + 1) = some (.inl (z 2, 120, .inr (.inl (fun _ => 0)))) := (f16 _ (by omega)).trans x12
  have x18 : h14 (o + 1 + 1) = some (.inl (z 1, 7200, .inl (fun _ => 0))) := (f16 _ (by omega)).trans e10
  refine ax_widen (k := 2) (n := 7320) (by omega) (by omega) ?_
  refine ax_vret hC hr hlocks dX1_init_21 ?_
  exact ⟨rfl, fun q hq => ((f16 q (by omega)).trans ((f11 q (by omega)).trans ((f7 q (by omega)).trans (f3 q (by omega))))), _, _, _, e15, x17, x18⟩

abbrev rmX2_init : Room := { frames := 1, cells := 1, slots := 4, locals := 12 }
set_option maxRecDepth 100000 in
set_option maxHeartbeats 4000000 in
theorem c_X2_init (l : Launch) (D : va_G) (z : Nat → ClassId) (B : Heap) (lo hi : Nat) (h : Nat → Option va_E) (o : Nat) (ho : h o = some (.inr (4, [.int 0, .null, .int 0, .int 0, .int 0, .int 0, .int 0, .null]))) (hhi : hi = o + 1) : Met l yX2_init wsX2_init rmX2_init (KP D vwCl B lo hi h (ty6 z) [.ref o]) (KQv D vwCl B lo (ty6 z) (fun hi' h' => hi' = o + 2 ∧ (∀ q, q < o → h' q = h q) ∧ EndS z h' o 9 none 0 0 0 0 0 (fun _ => 0))) 1 4 (fun q => lo ≤ q) := by
  subst hhi
  refine ax_met (by decide) rfl (Nat.le_of_ble_eq_true rfl) (L0 := [(0, .ref o)]) rfl ?_
  intro p e s m args below meth c hC hr hlocks hnm hargs
  have iX2 : ∀ w ∈ u_ws RX2 TX2 8, w ∈ wsX2_init := by decide +kernel
  refine ax_aload_n hC 0 dX2_init_0 rfl rfl ?_
  refine ax_objInit hC (by decide +kernel) (by decide +kernel) (by decide +kernel) dX2_init_1 (Nat.le_of_ble_eq_true rfl) (Nat.le_of_ble_eq_true rfl) ?_
  refine ax_aload_n hC 0 dX2_init_4 rfl rfl ?_
  refine ax_bipush (v := 9) hC dX2_init_5 (by decide) ?_
  refine ax_putf (v := .int 9) (ty := .int) hC tyX2 ho iX2 tyX2_ok nmX2 rfl 0 (by decide) (by decide +kernel) rfl rfl (by decide +kernel) (rfl) rfl (Nat.le_of_ble_eq_true rfl) dX2_init_7 (fun h1 e2 f3 => ?_)
  have e2 : h1 o = some (.inr (4, [.int 9, .null, .int 0, .int 0, .int 0, .int 0, .int 0, .null])) := e2
  refine ax_aload_n hC 0 dX2_init_10 rfl rfl ?_
  refine ax_iconst (v := 4) hC dX2_init_11 (by decide) ?_
  refine ax_newa (a0 := (4, .inl (fun _ => 0))) (N' := 4) hC 1 rfl (by decide +kernel) rfl (fun C q => by cases q) (fun cA => by first | rfl | simp [vp_cell, arrV, defaultValue]) (by decide) (by decide) (Nat.le_of_ble_eq_true rfl) (Nat.le_of_ble_eq_true rfl) (Nat.le_of_ble_eq_true rfl) dX2_init_12 (fun h4 e5 f6 => ?_)
  have e5 : h4 (o + 1) = some (.inl (z 1, 4, .inl (fun _ => 0))) := e5
  have x7 : h4 o = some (.inr (4, [.int 9, .null, .int 0, .int 0, .int 0, .int 0, .int 0, .null])) := (f6 _ (by omega)).trans e2
  refine ax_putF (v := .ref (o + 1)) (ty := .array .int) hC tyX2 x7 iX2 tyX2_ok nmX2 rfl 7 (by decide) (by decide +kernel) rfl rfl hnm rfl (by decide +kernel) (rfl) rfl (Nat.le_of_ble_eq_true rfl) dX2_init_14 (fun h8 e9 f10 => ?_)
  have e9 : h8 o = some (.inr (4, [.int 9, .null, .int 0, .int 0, .int 0, .int 0, .int 0, .ref (o + 1)])) := e9
  have x11 : h8 (o + 1) = some (.inl (z 1, 4, .inl (fun _ => 0))) := (f10 _ (by omega)).trans e5
  refine ax_widen (k := 1) (n := 4) (by omega) (by omega) ?_
  refine ax_vret hC hr hlocks dX2_init_17 ?_
  exact ⟨rfl, fun q hq => ((f10 q (by omega)).trans ((f6 q (by omega)).trans (f3 q (by omega)))), e9, x11⟩

abbrev rmX3_init : Room := { frames := 1, cells := 5, slots := 14461, locals := 12 }
set_option maxRecDepth 100000 in
set_option maxHeartbeats 4000000 in
theorem c_X3_init (l : Launch) (D : va_G) (z : Nat → ClassId) (B : Heap) (lo hi : Nat) (h : Nat → Option va_E) (o : Nat) (cm : Nat) (ho : h o = some (.inr (5, [.null, .int 0, .null, .null, .null, .null, .null, .int 0]))) (hhi : hi = o + 1) : Met l yX3_init wsX3_init rmX3_init (KP D vwCl B lo hi h (ty6 z) [.ref o, .ref cm]) (KQv D vwCl B lo (ty6 z) (fun hi' h' => hi' = o + 6 ∧ (∀ q, q < o → h' q = h q) ∧ HinS z h' o cm)) 5 14461 (fun q => lo ≤ q) := by
  subst hhi
  refine ax_met (by decide) rfl (Nat.le_of_ble_eq_true rfl) (L0 := [(0, .ref o), (1, .ref cm)]) rfl ?_
  intro p e s m args below meth c hC hr hlocks hnm hargs
  have iX3 : ∀ w ∈ u_ws RX3 TX3 8, w ∈ wsX3_init := by decide +kernel
  refine ax_aload_n hC 0 dX3_init_0 rfl rfl ?_
  refine ax_objInit hC (by decide +kernel) (by decide +kernel) (by decide +kernel) dX3_init_1 (Nat.le_of_ble_eq_true rfl) (Nat.le_of_ble_eq_true rfl) ?_
  refine ax_aload_n hC 0 dX3_init_4 rfl rfl ?_
  refine ax_sipush (v := 3601) hC dX3_init_5 (by decide) ?_
  refine ax_newa (a0 := (3601, .inl (fun _ => 0))) (N' := 3601) hC 1 rfl (by decide +kernel) rfl (fun C q => by cases q) (fun cA => by first | rfl | simp [vp_cell, arrV, defaultValue]) (by decide) (by decide) (Nat.le_of_ble_eq_true rfl) (Nat.le_of_ble_eq_true rfl) (Nat.le_of_ble_eq_true rfl) dX3_init_8 (fun h1 e2 f3 => ?_)
  have e2 : h1 (o + 1) = some (.inl (z 1, 3601, .inl (fun _ => 0))) := e2
  have x4 : h1 o = some (.inr (5, [.null, .int 0, .null, .null, .null, .null, .null, .int 0])) := (f3 _ (by omega)).trans ho
  refine ax_putF (v := .ref (o + 1)) (ty := .array .int) hC tyX3 x4 iX3 tyX3_ok nmX3 rfl 0 (by decide) (by decide +kernel) rfl rfl hnm rfl (by decide +kernel) (rfl) rfl (Nat.le_of_ble_eq_true rfl) dX3_init_10 (fun h5 e6 f7 => ?_)
  have e6 : h5 o = some (.inr (5, [.ref (o + 1), .int 0, .null, .null, .null, .null, .null, .int 0])) := e6
  have x8 : h5 (o + 1) = some (.inl (z 1, 3601, .inl (fun _ => 0))) := (f7 _ (by omega)).trans e2
  refine ax_aload_n hC 0 dX3_init_13 rfl rfl ?_
  refine ax_bipush (v := 60) hC dX3_init_14 (by decide) ?_
  refine ax_newa (a0 := (60, .inr (.inl (fun _ => 0)))) (N' := 60) hC 2 rfl (by decide +kernel) rfl (fun C q => by cases q) (fun cA => by first | rfl | simp [vp_cell, arrV, defaultValue]) (by decide) (by decide) (Nat.le_of_ble_eq_true rfl) (Nat.le_of_ble_eq_true rfl) (Nat.le_of_ble_eq_true rfl) dX3_init_16 (fun h9 e10 f11 => ?_)
  have e10 : h9 (o + 1 + 1) = some (.inl (z 2, 60, .inr (.inl (fun _ => 0)))) := e10
  have x12 : h9 (o + 1) = some (.inl (z 1, 3601, .inl (fun _ => 0))) := (f11 _ (by omega)).trans x8
  have x13 : h9 o = some (.inr (5, [.ref (o + 1), .int 0, .null, .null, .null, .null, .null, .int 0])) := (f11 _ (by omega)).trans e6
  refine ax_putF (v := .ref (o + 1 + 1)) (ty := .array .long) hC tyX3 x13 iX3 tyX3_ok nmX3 rfl 3 (by decide) (by decide +kernel) rfl rfl hnm rfl (by decide +kernel) (rfl) rfl (Nat.le_of_ble_eq_true rfl) dX3_init_18 (fun h14 e15 f16 => ?_)
  have e15 : h14 o = some (.inr (5, [.ref (o + 1), .int 0, .null, .ref (o + 1 + 1), .null, .null, .null, .int 0])) := e15
  have x17 : h14 (o + 1) = some (.inl (z 1, 3601, .inl (fun _ => 0))) := (f16 _ (by omega)).trans x12
  have x18 : h14 (o + 1 + 1) = some (.inl (z 2, 60, .inr (.inl (fun _ => 0)))) := (f16 _ (by omega)).trans e10
  refine ax_aload_n hC 0 dX3_init_21 rfl rfl ?_
  refine ax_sipush (v := 3600) hC dX3_init_22 (by decide) ?_
  refine ax_newa (a0 := (3600, .inl (fun _ => 0))) (N' := 3600) hC 1 rfl (by decide +kernel) rfl (fun C q => by cases q) (fun cA => by first | rfl | simp [vp_cell, arrV, defaultValue]) (by decide) (by decide) (Nat.le_of_ble_eq_true rfl) (Nat.le_of_ble_eq_true rfl) (Nat.le_of_ble_eq_true rfl) dX3_init_25 (fun h19 e20 f21 => ?_)
  have e20 : h19 (o + 1 + 2) = some (.inl (z 1, 3600, .inl (fun _ => 0))) := e20
  have x22 : h19 (o + 1) = some (.inl (z 1, 3601, .inl (fun _ => 0))) := (f21 _ (by omega)).trans x17
  have x23 : h19 (o + 1 + 1) = some (.inl (z 2, 60, .inr (.inl (fun _ => 0)))) := (f21 _ (by omega)).trans x18
  have x24 : h19 o = some (.inr (5, [.ref (o + 1), .int 0, .null, .ref (o + 1 + 1), .null, .null, .null, .int 0])) := (f21 _ (by omega)).trans e15
  refine ax_putF (v := .ref (o + 1 + 2)) (ty := .array .int) hC tyX3 x24 iX3 tyX3_ok nmX3 rfl 4 (by decide) (by decide +kernel) rfl rfl hnm rfl (by decide +kernel) (rfl) rfl (Nat.le_of_ble_eq_true rfl) dX3_init_27 (fun h25 e26 f27 => ?_)
  have e26 : h25 o = some (.inr (5, [.ref (o + 1), .int 0, .null, .ref (o + 1 + 1), .ref (o + 1 + 2), .null, .null, .int 0])) := e26
  have x28 : h25 (o + 1) = some (.inl (z 1, 3601, .inl (fun _ => 0))) := (f27 _ (by omega)).trans x22
  have x29 : h25 (o + 1 + 1) = some (.inl (z 2, 60, .inr (.inl (fun _ => 0)))) := (f27 _ (by omega)).trans x23
  have x30 : h25 (o + 1 + 2) = some (.inl (z 1, 3600, .inl (fun _ => 0))) := (f27 _ (by omega)).trans e20
  refine ax_aload_n hC 0 dX3_init_30 rfl rfl ?_
  refine ax_sipush (v := 3600) hC dX3_init_31 (by decide) ?_
  refine ax_newa (a0 := (3600, .inl (fun _ => 0))) (N' := 3600) hC 1 rfl (by decide +kernel) rfl (fun C q => by cases q) (fun cA => by first | rfl | simp [vp_cell, arrV, defaultValue]) (by decide) (by decide) (Nat.le_of_ble_eq_true rfl) (Nat.le_of_ble_eq_true rfl) (Nat.le_of_ble_eq_true rfl) dX3_init_34 (fun h31 e32 f33 => ?_)
  have e32 : h31 (o + 1 + 3) = some (.inl (z 1, 3600, .inl (fun _ => 0))) := e32
  have x34 : h31 (o + 1) = some (.inl (z 1, 3601, .inl (fun _ => 0))) := (f33 _ (by omega)).trans x28
  have x35 : h31 (o + 1 + 1) = some (.inl (z 2, 60, .inr (.inl (fun _ => 0)))) := (f33 _ (by omega)).trans x29
  have x36 : h31 (o + 1 + 2) = some (.inl (z 1, 3600, .inl (fun _ => 0))) := (f33 _ (by omega)).trans x30
  have x37 : h31 o = some (.inr (5, [.ref (o + 1), .int 0, .null, .ref (o + 1 + 1), .ref (o + 1 + 2), .null, .null, .int 0])) := (f33 _ (by omega)).trans e26
  refine ax_putF (v := .ref (o + 1 + 3)) (ty := .array .int) hC tyX3 x37 iX3 tyX3_ok nmX3 rfl 5 (by decide) (by decide +kernel) rfl rfl hnm rfl (by decide +kernel) (rfl) rfl (Nat.le_of_ble_eq_true rfl) dX3_init_36 (fun h38 e39 f40 => ?_)
  have e39 : h38 o = some (.inr (5, [.ref (o + 1), .int 0, .null, .ref (o + 1 + 1), .ref (o + 1 + 2), .ref (o + 1 + 3), .null, .int 0])) := e39
  have x41 : h38 (o + 1) = some (.inl (z 1, 3601, .inl (fun _ => 0))) := (f40 _ (by omega)).trans x34
  have x42 : h38 (o + 1 + 1) = some (.inl (z 2, 60, .inr (.inl (fun _ => 0)))) := (f40 _ (by omega)).trans x35
  have x43 : h38 (o + 1 + 2) = some (.inl (z 1, 3600, .inl (fun _ => 0))) := (f40 _ (by omega)).trans x36
  have x44 : h38 (o + 1 + 3) = some (.inl (z 1, 3600, .inl (fun _ => 0))) := (f40 _ (by omega)).trans e32
  refine ax_aload_n hC 0 dX3_init_39 rfl rfl ?_
  refine ax_sipush (v := 3600) hC dX3_init_40 (by decide) ?_
  refine ax_newa (a0 := (3600, .inl (fun _ => 0))) (N' := 3600) hC 1 rfl (by decide +kernel) rfl (fun C q => by cases q) (fun cA => by first | rfl | simp [vp_cell, arrV, defaultValue]) (by decide) (by decide) (Nat.le_of_ble_eq_true rfl) (Nat.le_of_ble_eq_true rfl) (Nat.le_of_ble_eq_true rfl) dX3_init_43 (fun h45 e46 f47 => ?_)
  have e46 : h45 (o + 1 + 4) = some (.inl (z 1, 3600, .inl (fun _ => 0))) := e46
  have x48 : h45 (o + 1) = some (.inl (z 1, 3601, .inl (fun _ => 0))) := (f47 _ (by omega)).trans x41
  have x49 : h45 (o + 1 + 1) = some (.inl (z 2, 60, .inr (.inl (fun _ => 0)))) := (f47 _ (by omega)).trans x42
  have x50 : h45 (o + 1 + 2) = some (.inl (z 1, 3600, .inl (fun _ => 0))) := (f47 _ (by omega)).trans x43
  have x51 : h45 (o + 1 + 3) = some (.inl (z 1, 3600, .inl (fun _ => 0))) := (f47 _ (by omega)).trans x44
  have x52 : h45 o = some (.inr (5, [.ref (o + 1), .int 0, .null, .ref (o + 1 + 1), .ref (o + 1 + 2), .ref (o + 1 + 3), .null, .int 0])) := (f47 _ (by omega)).trans e39
  refine ax_putF (v := .ref (o + 1 + 4)) (ty := .array .int) hC tyX3 x52 iX3 tyX3_ok nmX3 rfl 6 (by decide) (by decide +kernel) rfl rfl hnm rfl (by decide +kernel) (rfl) rfl (Nat.le_of_ble_eq_true rfl) dX3_init_45 (fun h53 e54 f55 => ?_)
  have e54 : h53 o = some (.inr (5, [.ref (o + 1), .int 0, .null, .ref (o + 1 + 1), .ref (o + 1 + 2), .ref (o + 1 + 3), .ref (o + 1 + 4), .int 0])) := e54
  have x56 : h53 (o + 1) = some (.inl (z 1, 3601, .inl (fun _ => 0))) := (f55 _ (by omega)).trans x48
  have x57 : h53 (o + 1 + 1) = some (.inl (z 2, 60, .inr (.inl (fun _ => 0)))) := (f55 _ (by omega)).trans x49
  have x58 : h53 (o + 1 + 2) = some (.inl (z 1, 3600, .inl (fun _ => 0))) := (f55 _ (by omega)).trans x50
  have x59 : h53 (o + 1 + 3) = some (.inl (z 1, 3600, .inl (fun _ => 0))) := (f55 _ (by omega)).trans x51
  have x60 : h53 (o + 1 + 4) = some (.inl (z 1, 3600, .inl (fun _ => 0))) := (f55 _ (by omega)).trans e46
  refine ax_aload_n hC 0 dX3_init_48 rfl rfl ?_
  refine ax_aload_n hC 1 dX3_init_49 rfl rfl ?_
  refine ax_putF (v := .ref cm) (ty := .object "SessionEnds$Compare") hC tyX3 e54 iX3 tyX3_ok nmX3 rfl 2 (by decide) (by decide +kernel) rfl rfl hnm rfl (by decide +kernel) (rfl) rfl (Nat.le_of_ble_eq_true rfl) dX3_init_50 (fun h61 e62 f63 => ?_)
  have e62 : h61 o = some (.inr (5, [.ref (o + 1), .int 0, .ref cm, .ref (o + 1 + 1), .ref (o + 1 + 2), .ref (o + 1 + 3), .ref (o + 1 + 4), .int 0])) := e62
  have x64 : h61 (o + 1) = some (.inl (z 1, 3601, .inl (fun _ => 0))) := (f63 _ (by omega)).trans x56
  have x65 : h61 (o + 1 + 1) = some (.inl (z 2, 60, .inr (.inl (fun _ => 0)))) := (f63 _ (by omega)).trans x57
  have x66 : h61 (o + 1 + 2) = some (.inl (z 1, 3600, .inl (fun _ => 0))) := (f63 _ (by omega)).trans x58
  have x67 : h61 (o + 1 + 3) = some (.inl (z 1, 3600, .inl (fun _ => 0))) := (f63 _ (by omega)).trans x59
  have x68 : h61 (o + 1 + 4) = some (.inl (z 1, 3600, .inl (fun _ => 0))) := (f63 _ (by omega)).trans x60
  refine ax_widen (k := 5) (n := 14461) (by omega) (by omega) ?_
  refine ax_vret hC hr hlocks dX3_init_53 ?_
  exact ⟨rfl, fun q hq => ((f63 q (by omega)).trans ((f55 q (by omega)).trans ((f47 q (by omega)).trans ((f40 q (by omega)).trans ((f33 q (by omega)).trans ((f27 q (by omega)).trans ((f21 q (by omega)).trans ((f16 q (by omega)).trans ((f11 q (by omega)).trans ((f7 q (by omega)).trans (f3 q (by omega)))))))))))), _, _, _, _, _, _, _, e62, x64, x65, x66, x67, x68⟩

abbrev rmX4_init : Room := { frames := 1, cells := 7, slots := 21398, locals := 12 }
set_option maxRecDepth 100000 in
set_option maxHeartbeats 4000000 in
theorem c_X4_init (l : Launch) (D : va_G) (z : Nat → ClassId) (B : Heap) (lo hi : Nat) (h : Nat → Option va_E) (o : Nat) (cm : Nat) (ho : h o = some (.inr (6, [.int 0, .int 0, .int 0, .int 0, .int 0, .null, .null, .null, .null, .null, .null, .null, .null, .int 0, .int 0]))) (hhi : hi = o + 1) : Met l yX4_init wsX4_init rmX4_init (KP D vwCl B lo hi h (ty6 z) [.ref o, .ref cm]) (KQv D vwCl B lo (ty6 z) (fun hi' h' => hi' = o + 8 ∧ (∀ q, q < o → h' q = h q) ∧ MtC z h' o cm none none 0 0)) 7 21398 (fun q => lo ≤ q) := by
  subst hhi
  refine ax_met (by decide) rfl (Nat.le_of_ble_eq_true rfl) (L0 := [(0, .ref o), (1, .ref cm)]) rfl ?_
  intro p e s m args below meth c hC hr hlocks hnm hargs
  have iX4 : ∀ w ∈ u_ws RX4 TX4 15, w ∈ wsX4_init := by decide +kernel
  refine ax_aload_n hC 0 dX4_init_0 rfl rfl ?_
  refine ax_objInit hC (by decide +kernel) (by decide +kernel) (by decide +kernel) dX4_init_1 (Nat.le_of_ble_eq_true rfl) (Nat.le_of_ble_eq_true rfl) ?_
  refine ax_aload_n hC 0 dX4_init_4 rfl rfl ?_
  refine ax_sipush (v := 3000) hC dX4_init_5 (by decide) ?_
  refine ax_newa (a0 := (3000, .inr (.inl (fun _ => 0)))) (N' := 3000) hC 2 rfl (by decide +kernel) rfl (fun C q => by cases q) (fun cA => by first | rfl | simp [vp_cell, arrV, defaultValue]) (by decide) (by decide) (Nat.le_of_ble_eq_true rfl) (Nat.le_of_ble_eq_true rfl) (Nat.le_of_ble_eq_true rfl) dX4_init_8 (fun h1 e2 f3 => ?_)
  have e2 : h1 (o + 1) = some (.inl (z 2, 3000, .inr (.inl (fun _ => 0)))) := e2
  have x4 : h1 o = some (.inr (6, [.int 0, .int 0, .int 0, .int 0, .int 0, .null, .null, .null, .null, .null, .null, .null, .null, .int 0, .int 0])) := (f3 _ (by omega)).trans ho
  refine ax_putF (v := .ref (o + 1)) (ty := .array .long) hC tyX4 x4 iX4 tyX4_ok nmX4 rfl 6 (by decide) (by decide +kernel) rfl rfl hnm rfl (by decide +kernel) (rfl) rfl (Nat.le_of_ble_eq_true rfl) dX4_init_10 (fun h5 e6 f7 => ?_)
  have e6 : h5 o = some (.inr (6, [.int 0, .int 0, .int 0, .int 0, .int 0, .null, .ref (o + 1), .null, .null, .null, .null, .null, .null, .int 0, .int 0])) := e6
  have x8 : h5 (o + 1) = some (.inl (z 2, 3000, .inr (.inl (fun _ => 0)))) := (f7 _ (by omega)).trans e2
  refine ax_aload_n hC 0 dX4_init_13 rfl rfl ?_
  refine ax_sipush (v := 3000) hC dX4_init_14 (by decide) ?_
  refine ax_newa (a0 := (3000, .inl (fun _ => 0))) (N' := 3000) hC 1 rfl (by decide +kernel) rfl (fun C q => by cases q) (fun cA => by first | rfl | simp [vp_cell, arrV, defaultValue]) (by decide) (by decide) (Nat.le_of_ble_eq_true rfl) (Nat.le_of_ble_eq_true rfl) (Nat.le_of_ble_eq_true rfl) dX4_init_17 (fun h9 e10 f11 => ?_)
  have e10 : h9 (o + 1 + 1) = some (.inl (z 1, 3000, .inl (fun _ => 0))) := e10
  have x12 : h9 (o + 1) = some (.inl (z 2, 3000, .inr (.inl (fun _ => 0)))) := (f11 _ (by omega)).trans x8
  have x13 : h9 o = some (.inr (6, [.int 0, .int 0, .int 0, .int 0, .int 0, .null, .ref (o + 1), .null, .null, .null, .null, .null, .null, .int 0, .int 0])) := (f11 _ (by omega)).trans e6
  refine ax_putF (v := .ref (o + 1 + 1)) (ty := .array .int) hC tyX4 x13 iX4 tyX4_ok nmX4 rfl 7 (by decide) (by decide +kernel) rfl rfl hnm rfl (by decide +kernel) (rfl) rfl (Nat.le_of_ble_eq_true rfl) dX4_init_19 (fun h14 e15 f16 => ?_)
  have e15 : h14 o = some (.inr (6, [.int 0, .int 0, .int 0, .int 0, .int 0, .null, .ref (o + 1), .ref (o + 1 + 1), .null, .null, .null, .null, .null, .int 0, .int 0])) := e15
  have x17 : h14 (o + 1) = some (.inl (z 2, 3000, .inr (.inl (fun _ => 0)))) := (f16 _ (by omega)).trans x12
  have x18 : h14 (o + 1 + 1) = some (.inl (z 1, 3000, .inl (fun _ => 0))) := (f16 _ (by omega)).trans e10
  refine ax_aload_n hC 0 dX4_init_22 rfl rfl ?_
  refine ax_sipush (v := 8192) hC dX4_init_23 (by decide) ?_
  refine ax_newa (a0 := (8192, .inl (fun _ => 0))) (N' := 8192) hC 1 rfl (by decide +kernel) rfl (fun C q => by cases q) (fun cA => by first | rfl | simp [vp_cell, arrV, defaultValue]) (by decide) (by decide) (Nat.le_of_ble_eq_true rfl) (Nat.le_of_ble_eq_true rfl) (Nat.le_of_ble_eq_true rfl) dX4_init_26 (fun h19 e20 f21 => ?_)
  have e20 : h19 (o + 1 + 2) = some (.inl (z 1, 8192, .inl (fun _ => 0))) := e20
  have x22 : h19 (o + 1) = some (.inl (z 2, 3000, .inr (.inl (fun _ => 0)))) := (f21 _ (by omega)).trans x17
  have x23 : h19 (o + 1 + 1) = some (.inl (z 1, 3000, .inl (fun _ => 0))) := (f21 _ (by omega)).trans x18
  have x24 : h19 o = some (.inr (6, [.int 0, .int 0, .int 0, .int 0, .int 0, .null, .ref (o + 1), .ref (o + 1 + 1), .null, .null, .null, .null, .null, .int 0, .int 0])) := (f21 _ (by omega)).trans e15
  refine ax_putF (v := .ref (o + 1 + 2)) (ty := .array .int) hC tyX4 x24 iX4 tyX4_ok nmX4 rfl 8 (by decide) (by decide +kernel) rfl rfl hnm rfl (by decide +kernel) (rfl) rfl (Nat.le_of_ble_eq_true rfl) dX4_init_28 (fun h25 e26 f27 => ?_)
  have e26 : h25 o = some (.inr (6, [.int 0, .int 0, .int 0, .int 0, .int 0, .null, .ref (o + 1), .ref (o + 1 + 1), .ref (o + 1 + 2), .null, .null, .null, .null, .int 0, .int 0])) := e26
  have x28 : h25 (o + 1) = some (.inl (z 2, 3000, .inr (.inl (fun _ => 0)))) := (f27 _ (by omega)).trans x22
  have x29 : h25 (o + 1 + 1) = some (.inl (z 1, 3000, .inl (fun _ => 0))) := (f27 _ (by omega)).trans x23
  have x30 : h25 (o + 1 + 2) = some (.inl (z 1, 8192, .inl (fun _ => 0))) := (f27 _ (by omega)).trans e20
  refine ax_aload_n hC 0 dX4_init_31 rfl rfl ?_
  refine ax_sipush (v := 7200) hC dX4_init_32 (by decide) ?_
  refine ax_newa (a0 := (7200, .inl (fun _ => 0))) (N' := 7200) hC 0 rfl (by decide +kernel) rfl (fun C q => by cases q) (fun cA => by first | rfl | simp [vp_cell, arrV, defaultValue]) (by decide) (by decide) (Nat.le_of_ble_eq_true rfl) (Nat.le_of_ble_eq_true rfl) (Nat.le_of_ble_eq_true rfl) dX4_init_35 (fun h31 e32 f33 => ?_)
  have e32 : h31 (o + 1 + 3) = some (.inl (z 0, 7200, .inl (fun _ => 0))) := e32
  have x34 : h31 (o + 1) = some (.inl (z 2, 3000, .inr (.inl (fun _ => 0)))) := (f33 _ (by omega)).trans x28
  have x35 : h31 (o + 1 + 1) = some (.inl (z 1, 3000, .inl (fun _ => 0))) := (f33 _ (by omega)).trans x29
  have x36 : h31 (o + 1 + 2) = some (.inl (z 1, 8192, .inl (fun _ => 0))) := (f33 _ (by omega)).trans x30
  have x37 : h31 o = some (.inr (6, [.int 0, .int 0, .int 0, .int 0, .int 0, .null, .ref (o + 1), .ref (o + 1 + 1), .ref (o + 1 + 2), .null, .null, .null, .null, .int 0, .int 0])) := (f33 _ (by omega)).trans e26
  refine ax_putF (v := .ref (o + 1 + 3)) (ty := .array .byte) hC tyX4 x37 iX4 tyX4_ok nmX4 rfl 9 (by decide) (by decide +kernel) rfl rfl hnm rfl (by decide +kernel) (rfl) rfl (Nat.le_of_ble_eq_true rfl) dX4_init_37 (fun h38 e39 f40 => ?_)
  have e39 : h38 o = some (.inr (6, [.int 0, .int 0, .int 0, .int 0, .int 0, .null, .ref (o + 1), .ref (o + 1 + 1), .ref (o + 1 + 2), .ref (o + 1 + 3), .null, .null, .null, .int 0, .int 0])) := e39
  have x41 : h38 (o + 1) = some (.inl (z 2, 3000, .inr (.inl (fun _ => 0)))) := (f40 _ (by omega)).trans x34
  have x42 : h38 (o + 1 + 1) = some (.inl (z 1, 3000, .inl (fun _ => 0))) := (f40 _ (by omega)).trans x35
  have x43 : h38 (o + 1 + 2) = some (.inl (z 1, 8192, .inl (fun _ => 0))) := (f40 _ (by omega)).trans x36
  have x44 : h38 (o + 1 + 3) = some (.inl (z 0, 7200, .inl (fun _ => 0))) := (f40 _ (by omega)).trans e32
  refine ax_aload_n hC 0 dX4_init_40 rfl rfl ?_
  refine ax_iconst (v := 2) hC dX4_init_41 (by decide) ?_
  refine ax_newq (C := RX7) (N' := 2) hC 5 rfl (by decide +kernel) hC.2.2.2.2.1 (by decide) (by decide) (Nat.le_of_ble_eq_true rfl) (Nat.le_of_ble_eq_true rfl) (Nat.le_of_ble_eq_true rfl) dX4_init_42 (fun h45 e46 f47 => ?_)
  have e46 : h45 (o + 1 + 4) = some (.inl (z 5, 2, .inr (.inr (.inr (.inr (fun _ => none)))))) := e46
  have x48 : h45 (o + 1) = some (.inl (z 2, 3000, .inr (.inl (fun _ => 0)))) := (f47 _ (by omega)).trans x41
  have x49 : h45 (o + 1 + 1) = some (.inl (z 1, 3000, .inl (fun _ => 0))) := (f47 _ (by omega)).trans x42
  have x50 : h45 (o + 1 + 2) = some (.inl (z 1, 8192, .inl (fun _ => 0))) := (f47 _ (by omega)).trans x43
  have x51 : h45 (o + 1 + 3) = some (.inl (z 0, 7200, .inl (fun _ => 0))) := (f47 _ (by omega)).trans x44
  have x52 : h45 o = some (.inr (6, [.int 0, .int 0, .int 0, .int 0, .int 0, .null, .ref (o + 1), .ref (o + 1 + 1), .ref (o + 1 + 2), .ref (o + 1 + 3), .null, .null, .null, .int 0, .int 0])) := (f47 _ (by omega)).trans e39
  refine ax_putF (v := .ref (o + 1 + 4)) (ty := .array (.object "SessionEnds$Protocol")) hC tyX4 x52 iX4 tyX4_ok nmX4 rfl 10 (by decide) (by decide +kernel) rfl rfl hnm rfl (by decide +kernel) (rfl) rfl (Nat.le_of_ble_eq_true rfl) dX4_init_45 (fun h53 e54 f55 => ?_)
  have e54 : h53 o = some (.inr (6, [.int 0, .int 0, .int 0, .int 0, .int 0, .null, .ref (o + 1), .ref (o + 1 + 1), .ref (o + 1 + 2), .ref (o + 1 + 3), .ref (o + 1 + 4), .null, .null, .int 0, .int 0])) := e54
  have x56 : h53 (o + 1) = some (.inl (z 2, 3000, .inr (.inl (fun _ => 0)))) := (f55 _ (by omega)).trans x48
  have x57 : h53 (o + 1 + 1) = some (.inl (z 1, 3000, .inl (fun _ => 0))) := (f55 _ (by omega)).trans x49
  have x58 : h53 (o + 1 + 2) = some (.inl (z 1, 8192, .inl (fun _ => 0))) := (f55 _ (by omega)).trans x50
  have x59 : h53 (o + 1 + 3) = some (.inl (z 0, 7200, .inl (fun _ => 0))) := (f55 _ (by omega)).trans x51
  have x60 : h53 (o + 1 + 4) = some (.inl (z 5, 2, .inr (.inr (.inr (.inr (fun _ => none)))))) := (f55 _ (by omega)).trans e46
  refine ax_aload_n hC 0 dX4_init_48 rfl rfl ?_
  refine ax_iconst (v := 2) hC dX4_init_49 (by decide) ?_
  refine ax_newa (a0 := (2, .inl (fun _ => 0))) (N' := 2) hC 1 rfl (by decide +kernel) rfl (fun C q => by cases q) (fun cA => by first | rfl | simp [vp_cell, arrV, defaultValue]) (by decide) (by decide) (Nat.le_of_ble_eq_true rfl) (Nat.le_of_ble_eq_true rfl) (Nat.le_of_ble_eq_true rfl) dX4_init_50 (fun h61 e62 f63 => ?_)
  have e62 : h61 (o + 1 + 5) = some (.inl (z 1, 2, .inl (fun _ => 0))) := e62
  have x64 : h61 (o + 1) = some (.inl (z 2, 3000, .inr (.inl (fun _ => 0)))) := (f63 _ (by omega)).trans x56
  have x65 : h61 (o + 1 + 1) = some (.inl (z 1, 3000, .inl (fun _ => 0))) := (f63 _ (by omega)).trans x57
  have x66 : h61 (o + 1 + 2) = some (.inl (z 1, 8192, .inl (fun _ => 0))) := (f63 _ (by omega)).trans x58
  have x67 : h61 (o + 1 + 3) = some (.inl (z 0, 7200, .inl (fun _ => 0))) := (f63 _ (by omega)).trans x59
  have x68 : h61 (o + 1 + 4) = some (.inl (z 5, 2, .inr (.inr (.inr (.inr (fun _ => none)))))) := (f63 _ (by omega)).trans x60
  have x69 : h61 o = some (.inr (6, [.int 0, .int 0, .int 0, .int 0, .int 0, .null, .ref (o + 1), .ref (o + 1 + 1), .ref (o + 1 + 2), .ref (o + 1 + 3), .ref (o + 1 + 4), .null, .null, .int 0, .int 0])) := (f63 _ (by omega)).trans e54
  refine ax_putF (v := .ref (o + 1 + 5)) (ty := .array .int) hC tyX4 x69 iX4 tyX4_ok nmX4 rfl 11 (by decide) (by decide +kernel) rfl rfl hnm rfl (by decide +kernel) (rfl) rfl (Nat.le_of_ble_eq_true rfl) dX4_init_52 (fun h70 e71 f72 => ?_)
  have e71 : h70 o = some (.inr (6, [.int 0, .int 0, .int 0, .int 0, .int 0, .null, .ref (o + 1), .ref (o + 1 + 1), .ref (o + 1 + 2), .ref (o + 1 + 3), .ref (o + 1 + 4), .ref (o + 1 + 5), .null, .int 0, .int 0])) := e71
  have x73 : h70 (o + 1) = some (.inl (z 2, 3000, .inr (.inl (fun _ => 0)))) := (f72 _ (by omega)).trans x64
  have x74 : h70 (o + 1 + 1) = some (.inl (z 1, 3000, .inl (fun _ => 0))) := (f72 _ (by omega)).trans x65
  have x75 : h70 (o + 1 + 2) = some (.inl (z 1, 8192, .inl (fun _ => 0))) := (f72 _ (by omega)).trans x66
  have x76 : h70 (o + 1 + 3) = some (.inl (z 0, 7200, .inl (fun _ => 0))) := (f72 _ (by omega)).trans x67
  have x77 : h70 (o + 1 + 4) = some (.inl (z 5, 2, .inr (.inr (.inr (.inr (fun _ => none)))))) := (f72 _ (by omega)).trans x68
  have x78 : h70 (o + 1 + 5) = some (.inl (z 1, 2, .inl (fun _ => 0))) := (f72 _ (by omega)).trans e62
  refine ax_aload_n hC 0 dX4_init_55 rfl rfl ?_
  refine ax_iconst (v := 2) hC dX4_init_56 (by decide) ?_
  refine ax_newa (a0 := (2, .inl (fun _ => 0))) (N' := 2) hC 1 rfl (by decide +kernel) rfl (fun C q => by cases q) (fun cA => by first | rfl | simp [vp_cell, arrV, defaultValue]) (by decide) (by decide) (Nat.le_of_ble_eq_true rfl) (Nat.le_of_ble_eq_true rfl) (Nat.le_of_ble_eq_true rfl) dX4_init_57 (fun h79 e80 f81 => ?_)
  have e80 : h79 (o + 1 + 6) = some (.inl (z 1, 2, .inl (fun _ => 0))) := e80
  have x82 : h79 (o + 1) = some (.inl (z 2, 3000, .inr (.inl (fun _ => 0)))) := (f81 _ (by omega)).trans x73
  have x83 : h79 (o + 1 + 1) = some (.inl (z 1, 3000, .inl (fun _ => 0))) := (f81 _ (by omega)).trans x74
  have x84 : h79 (o + 1 + 2) = some (.inl (z 1, 8192, .inl (fun _ => 0))) := (f81 _ (by omega)).trans x75
  have x85 : h79 (o + 1 + 3) = some (.inl (z 0, 7200, .inl (fun _ => 0))) := (f81 _ (by omega)).trans x76
  have x86 : h79 (o + 1 + 4) = some (.inl (z 5, 2, .inr (.inr (.inr (.inr (fun _ => none)))))) := (f81 _ (by omega)).trans x77
  have x87 : h79 (o + 1 + 5) = some (.inl (z 1, 2, .inl (fun _ => 0))) := (f81 _ (by omega)).trans x78
  have x88 : h79 o = some (.inr (6, [.int 0, .int 0, .int 0, .int 0, .int 0, .null, .ref (o + 1), .ref (o + 1 + 1), .ref (o + 1 + 2), .ref (o + 1 + 3), .ref (o + 1 + 4), .ref (o + 1 + 5), .null, .int 0, .int 0])) := (f81 _ (by omega)).trans e71
  refine ax_putF (v := .ref (o + 1 + 6)) (ty := .array .int) hC tyX4 x88 iX4 tyX4_ok nmX4 rfl 12 (by decide) (by decide +kernel) rfl rfl hnm rfl (by decide +kernel) (rfl) rfl (Nat.le_of_ble_eq_true rfl) dX4_init_59 (fun h89 e90 f91 => ?_)
  have e90 : h89 o = some (.inr (6, [.int 0, .int 0, .int 0, .int 0, .int 0, .null, .ref (o + 1), .ref (o + 1 + 1), .ref (o + 1 + 2), .ref (o + 1 + 3), .ref (o + 1 + 4), .ref (o + 1 + 5), .ref (o + 1 + 6), .int 0, .int 0])) := e90
  have x92 : h89 (o + 1) = some (.inl (z 2, 3000, .inr (.inl (fun _ => 0)))) := (f91 _ (by omega)).trans x82
  have x93 : h89 (o + 1 + 1) = some (.inl (z 1, 3000, .inl (fun _ => 0))) := (f91 _ (by omega)).trans x83
  have x94 : h89 (o + 1 + 2) = some (.inl (z 1, 8192, .inl (fun _ => 0))) := (f91 _ (by omega)).trans x84
  have x95 : h89 (o + 1 + 3) = some (.inl (z 0, 7200, .inl (fun _ => 0))) := (f91 _ (by omega)).trans x85
  have x96 : h89 (o + 1 + 4) = some (.inl (z 5, 2, .inr (.inr (.inr (.inr (fun _ => none)))))) := (f91 _ (by omega)).trans x86
  have x97 : h89 (o + 1 + 5) = some (.inl (z 1, 2, .inl (fun _ => 0))) := (f91 _ (by omega)).trans x87
  have x98 : h89 (o + 1 + 6) = some (.inl (z 1, 2, .inl (fun _ => 0))) := (f91 _ (by omega)).trans e80
  refine ax_aload_n hC 0 dX4_init_62 rfl rfl ?_
  refine ax_aload_n hC 1 dX4_init_63 rfl rfl ?_
  refine ax_putF (v := .ref cm) (ty := .object "SessionEnds$Compare") hC tyX4 e90 iX4 tyX4_ok nmX4 rfl 5 (by decide) (by decide +kernel) rfl rfl hnm rfl (by decide +kernel) (rfl) rfl (Nat.le_of_ble_eq_true rfl) dX4_init_64 (fun h99 e100 f101 => ?_)
  have e100 : h99 o = some (.inr (6, [.int 0, .int 0, .int 0, .int 0, .int 0, .ref cm, .ref (o + 1), .ref (o + 1 + 1), .ref (o + 1 + 2), .ref (o + 1 + 3), .ref (o + 1 + 4), .ref (o + 1 + 5), .ref (o + 1 + 6), .int 0, .int 0])) := e100
  have x102 : h99 (o + 1) = some (.inl (z 2, 3000, .inr (.inl (fun _ => 0)))) := (f101 _ (by omega)).trans x92
  have x103 : h99 (o + 1 + 1) = some (.inl (z 1, 3000, .inl (fun _ => 0))) := (f101 _ (by omega)).trans x93
  have x104 : h99 (o + 1 + 2) = some (.inl (z 1, 8192, .inl (fun _ => 0))) := (f101 _ (by omega)).trans x94
  have x105 : h99 (o + 1 + 3) = some (.inl (z 0, 7200, .inl (fun _ => 0))) := (f101 _ (by omega)).trans x95
  have x106 : h99 (o + 1 + 4) = some (.inl (z 5, 2, .inr (.inr (.inr (.inr (fun _ => none)))))) := (f101 _ (by omega)).trans x96
  have x107 : h99 (o + 1 + 5) = some (.inl (z 1, 2, .inl (fun _ => 0))) := (f101 _ (by omega)).trans x97
  have x108 : h99 (o + 1 + 6) = some (.inl (z 1, 2, .inl (fun _ => 0))) := (f101 _ (by omega)).trans x98
  refine ax_widen (k := 7) (n := 21398) (by omega) (by omega) ?_
  refine ax_vret hC hr hlocks dX4_init_67 ?_
  exact ⟨rfl, fun q hq => ((f101 q (by omega)).trans ((f91 q (by omega)).trans ((f81 q (by omega)).trans ((f72 q (by omega)).trans ((f63 q (by omega)).trans ((f55 q (by omega)).trans ((f47 q (by omega)).trans ((f40 q (by omega)).trans ((f33 q (by omega)).trans ((f27 q (by omega)).trans ((f21 q (by omega)).trans ((f16 q (by omega)).trans ((f11 q (by omega)).trans ((f7 q (by omega)).trans (f3 q (by omega)))))))))))))))), _, _, _, _, _, _, _, _, _, _, _, _, e100, x102, x103, x104, x105, x106, x107, x108, rfl, rfl, Or.inl rfl, Or.inl rfl⟩

abbrev rmX5_init : Room := { frames := 1, cells := 3, slots := 72, locals := 12 }
set_option maxRecDepth 100000 in
set_option maxHeartbeats 4000000 in
theorem c_X5_init (l : Launch) (D : va_G) (z : Nat → ClassId) (B : Heap) (lo hi : Nat) (h : Nat → Option va_E) (o : Nat) (ho : h o = some (.inr (7, [.int 0, .int 0, .null, .null, .null]))) (hhi : hi = o + 1) : Met l yX5_init wsX5_init rmX5_init (KP D vwCl B lo hi h (ty6 z) [.ref o]) (KQv D vwCl B lo (ty6 z) (fun hi' h' => hi' = o + 4 ∧ (∀ q, q < o → h' q = h q) ∧ ∃ fs : List Value, h' o = some (.inr (7, fs)))) 3 72 (fun q => lo ≤ q) := by
  subst hhi
  refine ax_met (by decide) rfl (Nat.le_of_ble_eq_true rfl) (L0 := [(0, .ref o)]) rfl ?_
  intro p e s m args below meth c hC hr hlocks hnm hargs
  have iX5 : ∀ w ∈ u_ws RX5 TX5 5, w ∈ wsX5_init := by decide +kernel
  refine ax_aload_n hC 0 dX5_init_0 rfl rfl ?_
  refine ax_objInit hC (by decide +kernel) (by decide +kernel) (by decide +kernel) dX5_init_1 (Nat.le_of_ble_eq_true rfl) (Nat.le_of_ble_eq_true rfl) ?_
  refine ax_aload_n hC 0 dX5_init_4 rfl rfl ?_
  refine ax_bipush (v := 24) hC dX5_init_5 (by decide) ?_
  refine ax_newa (a0 := (24, .inl (fun _ => 0))) (N' := 24) hC 1 rfl (by decide +kernel) rfl (fun C q => by cases q) (fun cA => by first | rfl | simp [vp_cell, arrV, defaultValue]) (by decide) (by decide) (Nat.le_of_ble_eq_true rfl) (Nat.le_of_ble_eq_true rfl) (Nat.le_of_ble_eq_true rfl) dX5_init_7 (fun h1 e2 f3 => ?_)
  have e2 : h1 (o + 1) = some (.inl (z 1, 24, .inl (fun _ => 0))) := e2
  have x4 : h1 o = some (.inr (7, [.int 0, .int 0, .null, .null, .null])) := (f3 _ (by omega)).trans ho
  refine ax_putF (v := .ref (o + 1)) (ty := .array .int) hC tyX5 x4 iX5 tyX5_ok nmX5 rfl 2 (by decide) (by decide +kernel) rfl rfl hnm rfl (by decide +kernel) (rfl) rfl (Nat.le_of_ble_eq_true rfl) dX5_init_9 (fun h5 e6 f7 => ?_)
  have e6 : h5 o = some (.inr (7, [.int 0, .int 0, .ref (o + 1), .null, .null])) := e6
  have x8 : h5 (o + 1) = some (.inl (z 1, 24, .inl (fun _ => 0))) := (f7 _ (by omega)).trans e2
  refine ax_aload_n hC 0 dX5_init_12 rfl rfl ?_
  refine ax_bipush (v := 24) hC dX5_init_13 (by decide) ?_
  refine ax_newa (a0 := (24, .inl (fun _ => 0))) (N' := 24) hC 1 rfl (by decide +kernel) rfl (fun C q => by cases q) (fun cA => by first | rfl | simp [vp_cell, arrV, defaultValue]) (by decide) (by decide) (Nat.le_of_ble_eq_true rfl) (Nat.le_of_ble_eq_true rfl) (Nat.le_of_ble_eq_true rfl) dX5_init_15 (fun h9 e10 f11 => ?_)
  have e10 : h9 (o + 1 + 1) = some (.inl (z 1, 24, .inl (fun _ => 0))) := e10
  have x12 : h9 (o + 1) = some (.inl (z 1, 24, .inl (fun _ => 0))) := (f11 _ (by omega)).trans x8
  have x13 : h9 o = some (.inr (7, [.int 0, .int 0, .ref (o + 1), .null, .null])) := (f11 _ (by omega)).trans e6
  refine ax_putF (v := .ref (o + 1 + 1)) (ty := .array .int) hC tyX5 x13 iX5 tyX5_ok nmX5 rfl 3 (by decide) (by decide +kernel) rfl rfl hnm rfl (by decide +kernel) (rfl) rfl (Nat.le_of_ble_eq_true rfl) dX5_init_17 (fun h14 e15 f16 => ?_)
  have e15 : h14 o = some (.inr (7, [.int 0, .int 0, .ref (o + 1), .ref (o + 1 + 1), .null])) := e15
  have x17 : h14 (o + 1) = some (.inl (z 1, 24, .inl (fun _ => 0))) := (f16 _ (by omega)).trans x12
  have x18 : h14 (o + 1 + 1) = some (.inl (z 1, 24, .inl (fun _ => 0))) := (f16 _ (by omega)).trans e10
  refine ax_aload_n hC 0 dX5_init_20 rfl rfl ?_
  refine ax_bipush (v := 24) hC dX5_init_21 (by decide) ?_
  refine ax_newa (a0 := (24, .inl (fun _ => 0))) (N' := 24) hC 1 rfl (by decide +kernel) rfl (fun C q => by cases q) (fun cA => by first | rfl | simp [vp_cell, arrV, defaultValue]) (by decide) (by decide) (Nat.le_of_ble_eq_true rfl) (Nat.le_of_ble_eq_true rfl) (Nat.le_of_ble_eq_true rfl) dX5_init_23 (fun h19 e20 f21 => ?_)
  have e20 : h19 (o + 1 + 2) = some (.inl (z 1, 24, .inl (fun _ => 0))) := e20
  have x22 : h19 (o + 1) = some (.inl (z 1, 24, .inl (fun _ => 0))) := (f21 _ (by omega)).trans x17
  have x23 : h19 (o + 1 + 1) = some (.inl (z 1, 24, .inl (fun _ => 0))) := (f21 _ (by omega)).trans x18
  have x24 : h19 o = some (.inr (7, [.int 0, .int 0, .ref (o + 1), .ref (o + 1 + 1), .null])) := (f21 _ (by omega)).trans e15
  refine ax_putF (v := .ref (o + 1 + 2)) (ty := .array .int) hC tyX5 x24 iX5 tyX5_ok nmX5 rfl 4 (by decide) (by decide +kernel) rfl rfl hnm rfl (by decide +kernel) (rfl) rfl (Nat.le_of_ble_eq_true rfl) dX5_init_25 (fun h25 e26 f27 => ?_)
  have e26 : h25 o = some (.inr (7, [.int 0, .int 0, .ref (o + 1), .ref (o + 1 + 1), .ref (o + 1 + 2)])) := e26
  have x28 : h25 (o + 1) = some (.inl (z 1, 24, .inl (fun _ => 0))) := (f27 _ (by omega)).trans x22
  have x29 : h25 (o + 1 + 1) = some (.inl (z 1, 24, .inl (fun _ => 0))) := (f27 _ (by omega)).trans x23
  have x30 : h25 (o + 1 + 2) = some (.inl (z 1, 24, .inl (fun _ => 0))) := (f27 _ (by omega)).trans e20
  refine ax_widen (k := 3) (n := 72) (by omega) (by omega) ?_
  refine ax_vret hC hr hlocks dX5_init_28 ?_
  exact ⟨rfl, fun q hq => ((f27 q (by omega)).trans ((f21 q (by omega)).trans ((f16 q (by omega)).trans ((f11 q (by omega)).trans ((f7 q (by omega)).trans (f3 q (by omega))))))), _, e26⟩

abbrev rmX10_init : Room := { frames := 1, cells := 1, slots := 200, locals := 12 }
set_option maxRecDepth 100000 in
set_option maxHeartbeats 4000000 in
theorem c_X10_init (l : Launch) (D : va_G) (z : Nat → ClassId) (B : Heap) (lo hi : Nat) (h : Nat → Option va_E) (o : Nat) (ho : h o = some (.inr (12, [.null, .int 0]))) (hhi : hi = o + 1) : Met l yX10_init wsX10_init rmX10_init (KP D vwCl B lo hi h (ty6 z) [.ref o]) (KQv D vwCl B lo (ty6 z) (fun hi' h' => hi' = o + 2 ∧ (∀ q, q < o → h' q = h q))) 1 200 (fun q => lo ≤ q) := by
  subst hhi
  refine ax_met (by decide) rfl (Nat.le_of_ble_eq_true rfl) (L0 := [(0, .ref o)]) rfl ?_
  intro p e s m args below meth c hC hr hlocks hnm hargs
  have iX10 : ∀ w ∈ u_ws RX10 TX10 2, w ∈ wsX10_init := by decide +kernel
  refine ax_aload_n hC 0 dX10_init_0 rfl rfl ?_
  refine ax_objInit hC (by decide +kernel) (by decide +kernel) (by decide +kernel) dX10_init_1 (Nat.le_of_ble_eq_true rfl) (Nat.le_of_ble_eq_true rfl) ?_
  refine ax_aload_n hC 0 dX10_init_4 rfl rfl ?_
  refine ax_sipush (v := 200) hC dX10_init_5 (by decide) ?_
  refine ax_newa (a0 := (200, .inl (fun _ => 0))) (N' := 200) hC 1 rfl (by decide +kernel) rfl (fun C q => by cases q) (fun cA => by first | rfl | simp [vp_cell, arrV, defaultValue]) (by decide) (by decide) (Nat.le_of_ble_eq_true rfl) (Nat.le_of_ble_eq_true rfl) (Nat.le_of_ble_eq_true rfl) dX10_init_8 (fun h1 e2 f3 => ?_)
  have e2 : h1 (o + 1) = some (.inl (z 1, 200, .inl (fun _ => 0))) := e2
  have x4 : h1 o = some (.inr (12, [.null, .int 0])) := (f3 _ (by omega)).trans ho
  refine ax_putF (v := .ref (o + 1)) (ty := .array .int) hC tyX10 x4 iX10 tyX10_ok nmX10 rfl 0 (by decide) (by decide +kernel) rfl rfl hnm rfl (by decide +kernel) (rfl) rfl (Nat.le_of_ble_eq_true rfl) dX10_init_10 (fun h5 e6 f7 => ?_)
  have e6 : h5 o = some (.inr (12, [.ref (o + 1), .int 0])) := e6
  have x8 : h5 (o + 1) = some (.inl (z 1, 200, .inl (fun _ => 0))) := (f7 _ (by omega)).trans e2
  refine ax_widen (k := 1) (n := 200) (by omega) (by omega) ?_
  refine ax_vret hC hr hlocks dX10_init_13 ?_
  exact ⟨rfl, fun q hq => ((f7 q (by omega)).trans (f3 q (by omega)))⟩

abbrev rmX6_init : Room := { frames := 2, cells := 5, slots := 77, locals := 32 }
set_option maxRecDepth 100000 in
set_option maxHeartbeats 4000000 in
theorem c_X6_init (l : Launch) (D : va_G) (z : Nat → ClassId) (B : Heap) (lo hi : Nat) (h : Nat → Option va_E) (o : Nat) (ho : h o = some (.inr (8, [.null, .null, .int 0, .int 0]))) (hhi : hi = o + 1) : Met l yX6_init wsX6_init rmX6_init (KP D vwCl B lo hi h (ty6 z) [.ref o]) (KQv D vwCl B lo (ty6 z) (fun hi' h' => hi' = o + 6 ∧ (∀ q, q < o → h' q = h q))) 5 77 (fun q => lo ≤ q) := by
  subst hhi
  refine ax_met (by decide) rfl (Nat.le_of_ble_eq_true rfl) (L0 := [(0, .ref o)]) rfl ?_
  intro p e s m args below meth c hC hr hlocks hnm hargs
  have iX5 : ∀ w ∈ u_ws RX5 TX5 5, w ∈ wsX6_init := by decide +kernel
  have iX6 : ∀ w ∈ u_ws RX6 TX6 4, w ∈ wsX6_init := by decide +kernel
  refine ax_aload_n hC 0 dX6_init_0 rfl rfl ?_
  refine ax_objInit hC (by decide +kernel) (by decide +kernel) (by decide +kernel) dX6_init_1 (Nat.le_of_ble_eq_true rfl) (Nat.le_of_ble_eq_true rfl) ?_
  refine ax_aload_n hC 0 dX6_init_4 rfl rfl ?_
  refine ax_new (C := RX5) (T := TX5) (N := 5) (ci := 7) (fs := [.int 0, .int 0, .null, .null, .null]) hC tyX5 iX5 tyX5_ok (by decide +kernel) (by decide +kernel) (by decide +kernel) rfl (fun j hj => by rcases (show j = 0 ∨ j = 1 ∨ j = 2 ∨ j = 3 ∨ j = 4 by omega) with rfl | rfl | rfl | rfl | rfl <;> rfl) (Nat.le_of_ble_eq_true rfl) (Nat.le_of_ble_eq_true rfl) dX6_init_5 (fun h1 e2 f3 => ?_)
  have e2 : h1 (o + 1) = some (.inr (7, [.int 0, .int 0, .null, .null, .null])) := e2
  have x4 : h1 o = some (.inr (8, [.null, .null, .int 0, .int 0])) := (f3 _ (by omega)).trans ho
  refine ax_dup hC dX6_init_8 rfl ?_
  refine ax_callIN (st := [.ref (o + 1), .ref o]) hC [] (c_X5_init l D z B lo _ h1 (o + 1) e2 rfl) ⟨va_cnB 0 hC.1.2.2.2.2 gX6_init_X5_init_n11 rfl rfl rfl hC.2.2.1.2.2.1 (hC.1.2.2.2.2 _ (by decide +kernel)) (by decide +kernel) ⟨Nat.le_of_ble_eq_true rfl, Nat.le_of_ble_eq_true rfl⟩, rfl, hC.1.2.2.2.2 _ (by decide +kernel)⟩ rfl rfl (Nat.le_of_ble_eq_true rfl) dX6_init_9 ⟨Nat.le_of_ble_eq_true rfl, Nat.le_of_ble_eq_true rfl⟩ (fun hi5 h6 hp7 => ?_)
  obtain ⟨ei8, fr9, pd10⟩ := hp7
  subst ei8
  have x11 : h6 o = some (.inr (8, [.null, .null, .int 0, .int 0])) := (fr9 _ (by omega)).trans x4
  refine ax_putF (v := .ref (o + 1)) (ty := .object "SessionEnds$Plan") hC tyX6 x11 iX6 tyX6_ok nmX6 rfl 0 (by decide) (by decide +kernel) rfl rfl hnm rfl (by decide +kernel) (rfl) rfl (Nat.le_of_ble_eq_true rfl) dX6_init_12 (fun h12 e13 f14 => ?_)
  have e13 : h12 o = some (.inr (8, [.ref (o + 1), .null, .int 0, .int 0])) := e13
  refine ax_aload_n hC 0 dX6_init_15 rfl rfl ?_
  refine ax_iconst (v := 0) hC dX6_init_16 (by decide) ?_
  refine ax_newa (a0 := (0, .inl (fun _ => 0))) (N' := 0) hC 1 rfl (by decide +kernel) rfl (fun C q => by cases q) (fun cA => by first | rfl | simp [vp_cell, arrV, defaultValue]) (by decide) (by decide) (Nat.le_of_ble_eq_true rfl) (Nat.le_of_ble_eq_true rfl) (Nat.le_of_ble_eq_true rfl) dX6_init_17 (fun h15 e16 f17 => ?_)
  have e16 : h15 (o + 1 + 4) = some (.inl (z 1, 0, .inl (fun _ => 0))) := e16
  have x18 : h15 o = some (.inr (8, [.ref (o + 1), .null, .int 0, .int 0])) := (f17 _ (by omega)).trans e13
  refine ax_putf (v := .ref (o + 1 + 4)) (ty := .array .int) hC tyX6 x18 iX6 tyX6_ok nmX6 rfl 1 (by decide) (by decide +kernel) rfl rfl (by decide +kernel) (rfl) rfl (Nat.le_of_ble_eq_true rfl) dX6_init_19 (fun h19 e20 f21 => ?_)
  have e20 : h19 o = some (.inr (8, [.ref (o + 1), .ref (o + 1 + 4), .int 0, .int 0])) := e20
  have x22 : h19 (o + 1 + 4) = some (.inl (z 1, 0, .inl (fun _ => 0))) := (f21 _ (by omega)).trans e16
  refine ax_widen (k := 5) (n := 77) (by omega) (by omega) ?_
  refine ax_vret hC hr hlocks dX6_init_22 ?_
  exact ⟨rfl, fun q hq => ((f21 q (by omega)).trans ((f17 q (by omega)).trans ((f14 q (by omega)).trans ((fr9 q (by omega)).trans (f3 q (by omega))))))⟩

abbrev rmX8_init : Room := { frames := 2, cells := 11, slots := 849, locals := 32 }
set_option maxRecDepth 100000 in
set_option maxHeartbeats 4000000 in
theorem c_X8_init (l : Launch) (D : va_G) (z : Nat → ClassId) (B : Heap) (lo hi : Nat) (h : Nat → Option va_E) (o : Nat) (ho : h o = some (.inr (10, [.null, .null, .null, .int 0, .int 0]))) (hhi : hi = o + 1) : Met l yX8_init wsX8_init rmX8_init (KP D vwCl B lo hi h (ty6 z) [.ref o]) (KQv D vwCl B lo (ty6 z) (fun hi' h' => hi' = o + 12 ∧ (∀ q, q < o → h' q = h q) ∧ RdI z h' o)) 11 849 (fun q => lo ≤ q) := by
  subst hhi
  refine ax_met (by decide) rfl (Nat.le_of_ble_eq_true rfl) (L0 := [(0, .ref o)]) rfl ?_
  intro p e s m args below meth c hC hr hlocks hnm hargs
  have iX7 : ∀ w ∈ u_ws RX7 TX7 9, w ∈ wsX8_init := by decide +kernel
  have iX8 : ∀ w ∈ u_ws RX8 TX8 5, w ∈ wsX8_init := by decide +kernel
  refine ax_aload_n hC 0 dX8_init_0 rfl rfl ?_
  refine ax_objInit hC (by decide +kernel) (by decide +kernel) (by decide +kernel) dX8_init_1 (Nat.le_of_ble_eq_true rfl) (Nat.le_of_ble_eq_true rfl) ?_
  refine ax_aload_n hC 0 dX8_init_4 rfl rfl ?_
  refine ax_new (C := RX7) (T := TX7) (N := 9) (ci := 9) (fs := [.int 0, .null, .null, .null, .null, .null, .null, .null, .null]) hC tyX7 iX7 tyX7_ok (by decide +kernel) (by decide +kernel) (by decide +kernel) rfl (fun j hj => by rcases (show j = 0 ∨ j = 1 ∨ j = 2 ∨ j = 3 ∨ j = 4 ∨ j = 5 ∨ j = 6 ∨ j = 7 ∨ j = 8 by omega) with rfl | rfl | rfl | rfl | rfl | rfl | rfl | rfl | rfl <;> rfl) (Nat.le_of_ble_eq_true rfl) (Nat.le_of_ble_eq_true rfl) dX8_init_5 (fun h1 e2 f3 => ?_)
  have e2 : h1 (o + 1) = some (.inr (9, [.int 0, .null, .null, .null, .null, .null, .null, .null, .null])) := e2
  have x4 : h1 o = some (.inr (10, [.null, .null, .null, .int 0, .int 0])) := (f3 _ (by omega)).trans ho
  refine ax_dup hC dX8_init_8 rfl ?_
  refine ax_callI (st := [.ref (o + 1), .ref o]) hC [] (c_X7_init l D z B lo _ h1 (o + 1) e2 rfl) (cwI 0 hC.1.2.2.2.2 gX8_init_X7_init rfl rfl rfl (hC.1.2.2.2.2 _ (by decide +kernel)) (hC.1.2.2.2.2 _ (by decide +kernel)) (hC.1.2.2.2.2 _ (by decide +kernel)) rfl (by decide +kernel) ⟨Nat.le_of_ble_eq_true rfl, Nat.le_of_ble_eq_true rfl⟩) rfl rfl (Nat.le_of_ble_eq_true rfl) dX8_init_9 ⟨Nat.le_of_ble_eq_true rfl, Nat.le_of_ble_eq_true rfl⟩ (fun hi5 h6 hp7 => ?_)
  obtain ⟨ei8, fr9, pd10⟩ := hp7
  subst ei8
  have x11 : h6 o = some (.inr (10, [.null, .null, .null, .int 0, .int 0])) := (fr9 _ (by omega)).trans x4
  refine ax_putF (v := .ref (o + 1)) (ty := .object "SessionEnds$Protocol") hC tyX8 x11 iX8 tyX8_ok nmX8 rfl 0 (by decide) (by decide +kernel) rfl rfl hnm rfl (by decide +kernel) (rfl) rfl (Nat.le_of_ble_eq_true rfl) dX8_init_12 (fun h12 e13 f14 => ?_)
  have e13 : h12 o = some (.inr (10, [.ref (o + 1), .null, .null, .int 0, .int 0])) := e13
  have pd15 : PrC z h12 (o + 1) 0 emptyP := pd10.kept (fun q _ _ => f14 q (by omega))
  refine ax_aload_n hC 0 dX8_init_15 rfl rfl ?_
  refine ax_bipush (v := 60) hC dX8_init_16 (by decide) ?_
  refine ax_newa (a0 := (60, .inl (fun _ => 0))) (N' := 60) hC 1 rfl (by decide +kernel) rfl (fun C q => by cases q) (fun cA => by first | rfl | simp [vp_cell, arrV, defaultValue]) (by decide) (by decide) (Nat.le_of_ble_eq_true rfl) (Nat.le_of_ble_eq_true rfl) (Nat.le_of_ble_eq_true rfl) dX8_init_18 (fun h16 e17 f18 => ?_)
  have e17 : h16 (o + 1 + 9) = some (.inl (z 1, 60, .inl (fun _ => 0))) := e17
  have x19 : h16 o = some (.inr (10, [.ref (o + 1), .null, .null, .int 0, .int 0])) := (f18 _ (by omega)).trans e13
  have pd20 : PrC z h16 (o + 1) 0 emptyP := pd15.kept (fun q _ _ => f18 q (by omega))
  refine ax_putF (v := .ref (o + 1 + 9)) (ty := .array .int) hC tyX8 x19 iX8 tyX8_ok nmX8 rfl 1 (by decide) (by decide +kernel) rfl rfl hnm rfl (by decide +kernel) (rfl) rfl (Nat.le_of_ble_eq_true rfl) dX8_init_20 (fun h21 e22 f23 => ?_)
  have e22 : h21 o = some (.inr (10, [.ref (o + 1), .ref (o + 1 + 9), .null, .int 0, .int 0])) := e22
  have x24 : h21 (o + 1 + 9) = some (.inl (z 1, 60, .inl (fun _ => 0))) := (f23 _ (by omega)).trans e17
  have pd25 : PrC z h21 (o + 1) 0 emptyP := pd20.kept (fun q _ _ => f23 q (by omega))
  refine ax_aload_n hC 0 dX8_init_23 rfl rfl ?_
  refine ax_iconst (v := 0) hC dX8_init_24 (by decide) ?_
  refine ax_newa (a0 := (0, .inl (fun _ => 0))) (N' := 0) hC 1 rfl (by decide +kernel) rfl (fun C q => by cases q) (fun cA => by first | rfl | simp [vp_cell, arrV, defaultValue]) (by decide) (by decide) (Nat.le_of_ble_eq_true rfl) (Nat.le_of_ble_eq_true rfl) (Nat.le_of_ble_eq_true rfl) dX8_init_25 (fun h26 e27 f28 => ?_)
  have e27 : h26 (o + 1 + 10) = some (.inl (z 1, 0, .inl (fun _ => 0))) := e27
  have x29 : h26 (o + 1 + 9) = some (.inl (z 1, 60, .inl (fun _ => 0))) := (f28 _ (by omega)).trans x24
  have x30 : h26 o = some (.inr (10, [.ref (o + 1), .ref (o + 1 + 9), .null, .int 0, .int 0])) := (f28 _ (by omega)).trans e22
  have pd31 : PrC z h26 (o + 1) 0 emptyP := pd25.kept (fun q _ _ => f28 q (by omega))
  refine ax_putf (v := .ref (o + 1 + 10)) (ty := .array .int) hC tyX8 x30 iX8 tyX8_ok nmX8 rfl 2 (by decide) (by decide +kernel) rfl rfl (by decide +kernel) (rfl) rfl (Nat.le_of_ble_eq_true rfl) dX8_init_27 (fun h32 e33 f34 => ?_)
  have e33 : h32 o = some (.inr (10, [.ref (o + 1), .ref (o + 1 + 9), .ref (o + 1 + 10), .int 0, .int 0])) := e33
  have x35 : h32 (o + 1 + 9) = some (.inl (z 1, 60, .inl (fun _ => 0))) := (f34 _ (by omega)).trans x29
  have x36 : h32 (o + 1 + 10) = some (.inl (z 1, 0, .inl (fun _ => 0))) := (f34 _ (by omega)).trans e27
  have pd37 : PrC z h32 (o + 1) 0 emptyP := pd31.kept (fun q _ _ => f34 q (by omega))
  refine ax_widen (k := 11) (n := 849) (by omega) (by omega) ?_
  refine ax_vret hC hr hlocks dX8_init_30 ?_
  exact ⟨rfl, fun q hq => ((f34 q (by omega)).trans ((f28 q (by omega)).trans ((f23 q (by omega)).trans ((f18 q (by omega)).trans ((f14 q (by omega)).trans ((fr9 q (by omega)).trans (f3 q (by omega)))))))), _, _, _, _, (emptyP.2 : RT), _, e33, pd37.1, pd37.2.1, pd37.2.2.1, pd37.2.2.2.1, pd37.2.2.2.2.1, pd37.2.2.2.2.2.1, pd37.2.2.2.2.2.2.1, pd37.2.2.2.2.2.2.2.1, pd37.2.2.2.2.2.2.2.2, x35⟩

theorem Ends0.succ {z : Nat → ClassId} {h : Nat → Option va_E} {e k : Nat} (q : Ends0 z h e k) (r : EndS z h (e + 2 * k) 9 none 0 0 0 0 0 (fun _ => 0)) : Ends0 z h e (k + 1) := by
  intro i hi
  by_cases hik : i = k
  · subst hik; exact r
  · exact q i (by omega)
theorem ef_put {ef : Nat → Option Nat} {e k : Nat} (q : ∀ i, i < k → ef i = some (e + 2 * i)) : ∀ i, i < k + 1 → va_up ef k (some (e + 2 * k)) i = some (e + 2 * i) := by
  intro i hi
  by_cases hik : i = k
  · subst hik; simp [va_up]
  · simp only [va_up, if_neg hik]; exact q i (by omega)
abbrev rmX9_init : Room := { frames := 2, cells := 52, slots := 529, locals := 60 }
set_option maxRecDepth 100000 in
set_option maxHeartbeats 4000000 in
theorem c_X9_init (l : Launch) (D : va_G) (z : Nat → ClassId) (B : Heap) (lo hi : Nat) (h : Nat → Option va_E) (o : Nat) (ho : h o = some (.inr (11, [.null, .null, .null, .int 0, .int 0, .int 0, .int 0, .int 0, .int 0, .int 0, .int 0]))) (hhi : hi = o + 1) : Met l yX9_init wsX9_init rmX9_init (KP D vwCl B lo hi h (ty6 z) [.ref o]) (KQv D vwCl B lo (ty6 z) (fun hi' h' => hi' = o + 53 ∧ (∀ q, q < o → h' q = h q) ∧ RmS z h' o 0 2 0 0 0 0 0 0 ∧ BlmS z h' (o + 3) 0 0 0 0 0 (fun _ => 0) ∧ Ends0 z h' (o + 5) 16)) 52 529 (fun q => lo ≤ q) := by
  subst hhi
  refine ax_met (by decide) rfl (Nat.le_of_ble_eq_true rfl) (L0 := [(0, .ref o)]) rfl ?_
  intro p e s m args below meth c hC hr hlocks hnm hargs
  have iX0 : ∀ w ∈ u_ws RX0 TX0 6, w ∈ wsX9_init := by decide +kernel
  have iX2 : ∀ w ∈ u_ws RX2 TX2 8, w ∈ wsX9_init := by decide +kernel
  have iX5 : ∀ w ∈ u_ws RX5 TX5 5, w ∈ wsX9_init := by decide +kernel
  have iX9 : ∀ w ∈ u_ws RX9 TX9 11, w ∈ wsX9_init := by decide +kernel
  have LP2 : ∀ (n : Nat) (k : Nat) (hX : Nat → Option va_E) (ef pf : Nat → Option Nat), k + n = 4 → (∀ q, q < o → hX q = h q) → hX o = some (.inr (11, [.ref (o + 1), .ref (o + 2), .ref (o + 3), .int 0, .int 2, .int 0, .int 0, .int 0, .int 0, .int 0, .int 0])) → hX (o + 1) = some (.inl (z 3, 16, .inr (.inr (.inr (.inr ef))))) → hX (o + 2) = some (.inl (z 4, 4, .inr (.inr (.inr (.inr pf))))) → (∀ i, i < 16 → ef i = some (o + 5 + 2 * i)) → BlmS z hX (o + 3) 0 0 0 0 0 (fun _ => 0) → Ends0 z hX (o + 5) 16 → Gx p l e rmX9_init s m args below meth c D vwCl B lo 2 (MQ below (KQv D vwCl B lo (ty6 z) (fun hi' h' => hi' = o + 53 ∧ (∀ q, q < o → h' q = h q) ∧ RmS z h' o 0 2 0 0 0 0 0 0 ∧ BlmS z h' (o + 3) 0 0 0 0 0 (fun _ => 0) ∧ Ends0 z h' (o + 5) 16)) args s 52 529 (fun q => lo ≤ q)) (o + 37 + 4 * k) hX (36 + 4 * k) (221 + 77 * k) [(1, .int (nI k)), (0, .ref o)] 66 [] := by
    intro n
    induction n with
    | zero =>
      intro k hX ef pf hkn hfr ho1 he1 he2 hef hbl hen
      refine ax_iload_n hC 0 dX9_init_66 rfl rfl ?_
      refine ax_iconst (v := 4) hC dX9_init_67 (by decide) ?_
      refine ax_icmp_ge (tgt := 90) hC dX9_init_68 (by decide) (fun c137001 => ?_) (fun c137001 => ?_)
      · refine ax_widen (k := 52) (n := 529) (by omega) (by omega) ?_
        refine ax_vret hC hr hlocks dX9_init_90 ?_
        exact ⟨by omega, (fun q hq => (hfr q hq)), ⟨ho1, ef, he1, hef⟩, hbl, hen⟩
      · exact absurd (nI_le (a := 4) (b := k) (by omega) (by omega)) c137001
    | succ n ih =>
      intro k hX ef pf hkn hfr ho1 he1 he2 hef hbl hen
      refine ax_iload_n hC 0 dX9_init_66 rfl rfl ?_
      refine ax_iconst (v := 4) hC dX9_init_67 (by decide) ?_
      refine ax_icmp_ge (tgt := 90) hC dX9_init_68 (by decide) (fun c138001 => ?_) (fun c138001 => ?_)
      · exact absurd c138001 (nI_ge (a := k) (b := 4) (by omega) (by decide))
      · refine ax_aload_n hC 1 dX9_init_71 rfl rfl ?_
        refine ax_getf (v := .ref (o + 2)) hC ho1 iX9 rfl 1 (by decide) (by decide +kernel) rfl rfl dX9_init_72 ?_
        refine ax_iload_n hC 0 dX9_init_75 rfl rfl ?_
        refine ax_new (C := RX5) (T := TX5) (N := 5) (ci := 7) (fs := [.int 0, .int 0, .null, .null, .null]) hC tyX5 iX5 tyX5_ok (by decide +kernel) (by decide +kernel) (by decide +kernel) rfl (fun j hj => by rcases (show j = 0 ∨ j = 1 ∨ j = 2 ∨ j = 3 ∨ j = 4 by omega) with rfl | rfl | rfl | rfl | rfl <;> rfl) (show 36 + 4 * k + 1 ≤ 52 by omega) (show 221 + 77 * k + 5 ≤ 529 by omega) dX9_init_76 (fun h138002 e138003 f138004 => ?_)
        have e138003 : h138002 (o + 37 + 4 * k) = some (.inr (7, [.int 0, .int 0, .null, .null, .null])) := e138003
        have x138005 : h138002 o = some (.inr (11, [.ref (o + 1), .ref (o + 2), .ref (o + 3), .int 0, .int 2, .int 0, .int 0, .int 0, .int 0, .int 0, .int 0])) := (f138004 _ (by omega)).trans ho1
        have x138006 : h138002 (o + 1) = some (.inl (z 3, 16, .inr (.inr (.inr (.inr (ef)))))) := (f138004 _ (by omega)).trans he1
        have x138007 : h138002 (o + 2) = some (.inl (z 4, 4, .inr (.inr (.inr (.inr (pf)))))) := (f138004 _ (by omega)).trans he2
        have pd138008 : BlmS z h138002 (o + 3) 0 0 0 0 0 (fun _ => 0) := hbl.kept (fun q _ _ => f138004 q (by omega))
        have pd138009 : Ends0 z h138002 (o + 5) 16 := hen.kept (fun q _ _ => f138004 q (by omega))
        refine ax_dup hC dX9_init_79 rfl ?_
        refine ax_callIN (st := [.ref (o + 37 + 4 * k), .int (nI k), .ref (o + 2)]) hC [] (c_X5_init l D z B lo _ h138002 (o + 37 + 4 * k) e138003 rfl) ⟨va_cnB 0 hC.1.2.2.2.2 gX9_init_X5_init_n35 rfl rfl rfl hC.2.2.1.2.2.2.2.2.2.2 (hC.1.2.2.2.2 _ (by decide +kernel)) (by decide +kernel) ⟨Nat.le_of_ble_eq_true rfl, Nat.le_of_ble_eq_true rfl⟩, rfl, hC.1.2.2.2.2 _ (by decide +kernel)⟩ rfl rfl (Nat.le_of_ble_eq_true rfl) dX9_init_80 ⟨show 36 + 4 * k + 1 + 3 ≤ 52 by omega, show 221 + 77 * k + 5 + 72 ≤ 529 by omega⟩ (fun hi138010 h138011 hp138012 => ?_)
        obtain ⟨ei138013, fr138014, pd138015⟩ := hp138012
        subst ei138013
        have x138016 : h138011 o = some (.inr (11, [.ref (o + 1), .ref (o + 2), .ref (o + 3), .int 0, .int 2, .int 0, .int 0, .int 0, .int 0, .int 0, .int 0])) := (fr138014 _ (by omega)).trans x138005
        have x138017 : h138011 (o + 1) = some (.inl (z 3, 16, .inr (.inr (.inr (.inr (ef)))))) := (fr138014 _ (by omega)).trans x138006
        have x138018 : h138011 (o + 2) = some (.inl (z 4, 4, .inr (.inr (.inr (.inr (pf)))))) := (fr138014 _ (by omega)).trans x138007
        have pd138019 : BlmS z h138011 (o + 3) 0 0 0 0 0 (fun _ => 0) := pd138008.kept (fun q _ _ => fr138014 q (by omega))
        have pd138020 : Ends0 z h138011 (o + 5) 16 := pd138009.kept (fun q _ _ => fr138014 q (by omega))
        obtain ⟨fs138021, pd138015⟩ := pd138015
        refine ax_aast hC x138018 4 rfl pd138015 rfl (vp_in_nI (by omega) (by omega)) dX9_init_83 (fun h138022 e138023 f138024 => ?_)
        rw [nI_clamp (by omega)] at e138023
        have x138025 : h138022 o = some (.inr (11, [.ref (o + 1), .ref (o + 2), .ref (o + 3), .int 0, .int 2, .int 0, .int 0, .int 0, .int 0, .int 0, .int 0])) := (f138024 _ (by omega)).trans x138016
        have x138026 : h138022 (o + 1) = some (.inl (z 3, 16, .inr (.inr (.inr (.inr (ef)))))) := (f138024 _ (by omega)).trans x138017
        have pd138027 : BlmS z h138022 (o + 3) 0 0 0 0 0 (fun _ => 0) := pd138019.kept (fun q _ _ => f138024 q (by omega))
        have pd138028 : Ends0 z h138022 (o + 5) 16 := pd138020.kept (fun q _ _ => f138024 q (by omega))
        refine ax_iinc (v := nI (k + 1)) hC 0 [(1, .int (nI (k + 1))), (0, .ref o)] dX9_init_84 rfl (nI_1 _) (by decide) rfl ?_
        refine ax_goto (tgt := 66) hC dX9_init_87 (by decide) ?_
        refine ax_locals [0, 1] (L' := [(1, .int (nI (k + 1))), (0, .ref o)]) rfl ?_
        refine ax_eqs (hi' := o + 37 + 4 * (k + 1)) (cs' := 36 + 4 * (k + 1)) (ss' := 221 + 77 * (k + 1)) (by omega) (by omega) (by omega) ?_
        exact ih (k + 1) h138022 ef _ (by omega) (fun q hq => ((f138024 q (by omega)).trans ((fr138014 q (by omega)).trans ((f138004 q (by omega)).trans (hfr q hq))))) x138025 x138026 e138023 hef pd138027 pd138028
  have LP1 : ∀ (n : Nat) (k : Nat) (hX : Nat → Option va_E) (ef pf : Nat → Option Nat), k + n = 16 → (∀ q, q < o → hX q = h q) → hX o = some (.inr (11, [.ref (o + 1), .ref (o + 2), .ref (o + 3), .int 0, .int 2, .int 0, .int 0, .int 0, .int 0, .int 0, .int 0])) → hX (o + 1) = some (.inl (z 3, 16, .inr (.inr (.inr (.inr ef))))) → hX (o + 2) = some (.inl (z 4, 4, .inr (.inr (.inr (.inr pf))))) → (∀ i, i < k → ef i = some (o + 5 + 2 * i)) → BlmS z hX (o + 3) 0 0 0 0 0 (fun _ => 0) → Ends0 z hX (o + 5) k → Gx p l e rmX9_init s m args below meth c D vwCl B lo 2 (MQ below (KQv D vwCl B lo (ty6 z) (fun hi' h' => hi' = o + 53 ∧ (∀ q, q < o → h' q = h q) ∧ RmS z h' o 0 2 0 0 0 0 0 0 ∧ BlmS z h' (o + 3) 0 0 0 0 0 (fun _ => 0) ∧ Ends0 z h' (o + 5) 16)) args s 52 529 (fun q => lo ≤ q)) (o + 5 + 2 * k) hX (4 + 2 * k) (29 + 12 * k) [(1, .int (nI k)), (0, .ref o)] 39 [] := by
    intro n
    induction n with
    | zero =>
      intro k hX ef pf hkn hfr ho1 he1 he2 hef hbl hen
      refine ax_iload_n hC 0 dX9_init_39 rfl rfl ?_
      refine ax_bipush (v := 16) hC dX9_init_40 (by decide) ?_
      refine ax_icmp_ge (tgt := 64) hC dX9_init_42 (by decide) (fun c139001 => ?_) (fun c139001 => ?_)
      · refine ax_iconst (v := 0) hC dX9_init_64 (by decide) ?_
        refine ax_istore_n hC [(1, .int 0), (0, .ref o)] dX9_init_65 rfl (by decide) rfl ?_
        refine ax_locals [0, 1] (L' := [(1, .int 0), (0, .ref o)]) rfl ?_
        obtain rfl : k = 16 := by omega
        refine ax_eqs (hi' := o + 37 + 4 * 0) (cs' := 36 + 4 * 0) (ss' := 221 + 77 * 0) (by omega) (by omega) (by omega) ?_
        exact LP2 4 0 hX ef pf (by omega) (fun q hq => (hfr q hq)) ho1 he1 he2 hef hbl hen
      · exact absurd (nI_le (a := 16) (b := k) (by omega) (by omega)) c139001
    | succ n ih =>
      intro k hX ef pf hkn hfr ho1 he1 he2 hef hbl hen
      refine ax_iload_n hC 0 dX9_init_39 rfl rfl ?_
      refine ax_bipush (v := 16) hC dX9_init_40 (by decide) ?_
      refine ax_icmp_ge (tgt := 64) hC dX9_init_42 (by decide) (fun c140001 => ?_) (fun c140001 => ?_)
      · exact absurd c140001 (nI_ge (a := k) (b := 16) (by omega) (by decide))
      · refine ax_aload_n hC 1 dX9_init_45 rfl rfl ?_
        refine ax_getf (v := .ref (o + 1)) hC ho1 iX9 rfl 0 (by decide) (by decide +kernel) rfl rfl dX9_init_46 ?_
        refine ax_iload_n hC 0 dX9_init_49 rfl rfl ?_
        refine ax_new (C := RX2) (T := TX2) (N := 8) (ci := 4) (fs := [.int 0, .null, .int 0, .int 0, .int 0, .int 0, .int 0, .null]) hC tyX2 iX2 tyX2_ok (by decide +kernel) (by decide +kernel) (by decide +kernel) rfl (fun j hj => by rcases (show j = 0 ∨ j = 1 ∨ j = 2 ∨ j = 3 ∨ j = 4 ∨ j = 5 ∨ j = 6 ∨ j = 7 by omega) with rfl | rfl | rfl | rfl | rfl | rfl | rfl | rfl <;> rfl) (show 4 + 2 * k + 1 ≤ 52 by omega) (show 29 + 12 * k + 8 ≤ 529 by omega) dX9_init_50 (fun h140002 e140003 f140004 => ?_)
        have e140003 : h140002 (o + 5 + 2 * k) = some (.inr (4, [.int 0, .null, .int 0, .int 0, .int 0, .int 0, .int 0, .null])) := e140003
        have x140005 : h140002 o = some (.inr (11, [.ref (o + 1), .ref (o + 2), .ref (o + 3), .int 0, .int 2, .int 0, .int 0, .int 0, .int 0, .int 0, .int 0])) := (f140004 _ (by omega)).trans ho1
        have x140006 : h140002 (o + 1) = some (.inl (z 3, 16, .inr (.inr (.inr (.inr (ef)))))) := (f140004 _ (by omega)).trans he1
        have x140007 : h140002 (o + 2) = some (.inl (z 4, 4, .inr (.inr (.inr (.inr (pf)))))) := (f140004 _ (by omega)).trans he2
        have pd140008 : BlmS z h140002 (o + 3) 0 0 0 0 0 (fun _ => 0) := hbl.kept (fun q _ _ => f140004 q (by omega))
        have pd140009 : Ends0 z h140002 (o + 5) k := hen.kept (fun q _ _ => f140004 q (by omega))
        refine ax_dup hC dX9_init_53 rfl ?_
        refine ax_callIN (st := [.ref (o + 5 + 2 * k), .int (nI k), .ref (o + 1)]) hC [] (c_X2_init l D z B lo _ h140002 (o + 5 + 2 * k) e140003 rfl) ⟨va_cnB 0 hC.1.2.2.2.2 gX9_init_X2_init_n34 rfl rfl rfl hC.2.2.1.2.2.2.2.2.2.1 (hC.1.2.2.2.2 _ (by decide +kernel)) (by decide +kernel) ⟨Nat.le_of_ble_eq_true rfl, Nat.le_of_ble_eq_true rfl⟩, rfl, hC.1.2.2.2.2 _ (by decide +kernel)⟩ rfl rfl (Nat.le_of_ble_eq_true rfl) dX9_init_54 ⟨show 4 + 2 * k + 1 + 1 ≤ 52 by omega, show 29 + 12 * k + 8 + 4 ≤ 529 by omega⟩ (fun hi140010 h140011 hp140012 => ?_)
        obtain ⟨ei140013, fr140014, pd140015⟩ := hp140012
        subst ei140013
        have x140016 : h140011 o = some (.inr (11, [.ref (o + 1), .ref (o + 2), .ref (o + 3), .int 0, .int 2, .int 0, .int 0, .int 0, .int 0, .int 0, .int 0])) := (fr140014 _ (by omega)).trans x140005
        have x140017 : h140011 (o + 1) = some (.inl (z 3, 16, .inr (.inr (.inr (.inr (ef)))))) := (fr140014 _ (by omega)).trans x140006
        have x140018 : h140011 (o + 2) = some (.inl (z 4, 4, .inr (.inr (.inr (.inr (pf)))))) := (fr140014 _ (by omega)).trans x140007
        have pd140019 : BlmS z h140011 (o + 3) 0 0 0 0 0 (fun _ => 0) := pd140008.kept (fun q _ _ => fr140014 q (by omega))
        have pd140020 : Ends0 z h140011 (o + 5) k := pd140009.kept (fun q _ _ => fr140014 q (by omega))
        refine ax_aast hC x140017 3 rfl pd140015.1 rfl (vp_in_nI (by omega) (by omega)) dX9_init_57 (fun h140021 e140022 f140023 => ?_)
        rw [nI_clamp (by omega)] at e140022
        have x140024 : h140021 o = some (.inr (11, [.ref (o + 1), .ref (o + 2), .ref (o + 3), .int 0, .int 2, .int 0, .int 0, .int 0, .int 0, .int 0, .int 0])) := (f140023 _ (by omega)).trans x140016
        have x140025 : h140021 (o + 2) = some (.inl (z 4, 4, .inr (.inr (.inr (.inr (pf)))))) := (f140023 _ (by omega)).trans x140018
        have pd140026 : BlmS z h140021 (o + 3) 0 0 0 0 0 (fun _ => 0) := pd140019.kept (fun q _ _ => f140023 q (by omega))
        have pd140027 : Ends0 z h140021 (o + 5) k := pd140020.kept (fun q _ _ => f140023 q (by omega))
        have pd140028 : EndS z h140021 (o + 5 + 2 * k) 9 none 0 0 0 0 0 (fun _ => 0) := pd140015.kept (fun q _ _ => f140023 q (by omega))
        refine ax_iinc (v := nI (k + 1)) hC 0 [(1, .int (nI (k + 1))), (0, .ref o)] dX9_init_58 rfl (nI_1 _) (by decide) rfl ?_
        refine ax_goto (tgt := 39) hC dX9_init_61 (by decide) ?_
        refine ax_locals [0, 1] (L' := [(1, .int (nI (k + 1))), (0, .ref o)]) rfl ?_
        refine ax_eqs (hi' := o + 5 + 2 * (k + 1)) (cs' := 4 + 2 * (k + 1)) (ss' := 29 + 12 * (k + 1)) (by omega) (by omega) (by omega) ?_
        exact ih (k + 1) h140021 _ pf (by omega) (fun q hq => ((f140023 q (by omega)).trans ((fr140014 q (by omega)).trans ((f140004 q (by omega)).trans (hfr q hq))))) x140024 e140022 x140025 (ef_put hef) pd140026 (pd140027.succ pd140028)
  refine ax_aload_n hC 0 dX9_init_0 rfl rfl ?_
  refine ax_objInit hC (by decide +kernel) (by decide +kernel) (by decide +kernel) dX9_init_1 (Nat.le_of_ble_eq_true rfl) (Nat.le_of_ble_eq_true rfl) ?_
  refine ax_aload_n hC 0 dX9_init_4 rfl rfl ?_
  refine ax_bipush (v := 16) hC dX9_init_5 (by decide) ?_
  refine ax_newq (C := RX2) (N' := 16) hC 3 rfl (by decide +kernel) hC.2.2.2.2.2.1 (by decide) (by decide) (Nat.le_of_ble_eq_true rfl) (Nat.le_of_ble_eq_true rfl) (Nat.le_of_ble_eq_true rfl) dX9_init_7 (fun h1 e2 f3 => ?_)
  have e2 : h1 (o + 1) = some (.inl (z 3, 16, .inr (.inr (.inr (.inr (fun _ => none)))))) := e2
  have x4 : h1 o = some (.inr (11, [.null, .null, .null, .int 0, .int 0, .int 0, .int 0, .int 0, .int 0, .int 0, .int 0])) := (f3 _ (by omega)).trans ho
  refine ax_putF (v := .ref (o + 1)) (ty := .array (.object "SessionEnds$End")) hC tyX9 x4 iX9 tyX9_ok nmX9 rfl 0 (by decide) (by decide +kernel) rfl rfl hnm rfl (by decide +kernel) (rfl) rfl (Nat.le_of_ble_eq_true rfl) dX9_init_10 (fun h5 e6 f7 => ?_)
  have e6 : h5 o = some (.inr (11, [.ref (o + 1), .null, .null, .int 0, .int 0, .int 0, .int 0, .int 0, .int 0, .int 0, .int 0])) := e6
  have x8 : h5 (o + 1) = some (.inl (z 3, 16, .inr (.inr (.inr (.inr (fun _ => none)))))) := (f7 _ (by omega)).trans e2
  refine ax_aload_n hC 0 dX9_init_13 rfl rfl ?_
  refine ax_iconst (v := 4) hC dX9_init_14 (by decide) ?_
  refine ax_newq (C := RX5) (N' := 4) hC 4 rfl (by decide +kernel) hC.2.2.2.2.2.2.1 (by decide) (by decide) (Nat.le_of_ble_eq_true rfl) (Nat.le_of_ble_eq_true rfl) (Nat.le_of_ble_eq_true rfl) dX9_init_15 (fun h9 e10 f11 => ?_)
  have e10 : h9 (o + 1 + 1) = some (.inl (z 4, 4, .inr (.inr (.inr (.inr (fun _ => none)))))) := e10
  have x12 : h9 (o + 1) = some (.inl (z 3, 16, .inr (.inr (.inr (.inr (fun _ => none)))))) := (f11 _ (by omega)).trans x8
  have x13 : h9 o = some (.inr (11, [.ref (o + 1), .null, .null, .int 0, .int 0, .int 0, .int 0, .int 0, .int 0, .int 0, .int 0])) := (f11 _ (by omega)).trans e6
  refine ax_putF (v := .ref (o + 1 + 1)) (ty := .array (.object "SessionEnds$Plan")) hC tyX9 x13 iX9 tyX9_ok nmX9 rfl 1 (by decide) (by decide +kernel) rfl rfl hnm rfl (by decide +kernel) (rfl) rfl (Nat.le_of_ble_eq_true rfl) dX9_init_18 (fun h14 e15 f16 => ?_)
  have e15 : h14 o = some (.inr (11, [.ref (o + 1), .ref (o + 1 + 1), .null, .int 0, .int 0, .int 0, .int 0, .int 0, .int 0, .int 0, .int 0])) := e15
  have x17 : h14 (o + 1) = some (.inl (z 3, 16, .inr (.inr (.inr (.inr (fun _ => none)))))) := (f16 _ (by omega)).trans x12
  have x18 : h14 (o + 1 + 1) = some (.inl (z 4, 4, .inr (.inr (.inr (.inr (fun _ => none)))))) := (f16 _ (by omega)).trans e10
  refine ax_aload_n hC 0 dX9_init_21 rfl rfl ?_
  refine ax_new (C := RX0) (T := TX0) (N := 6) (ci := 2) (fs := [.int 0, .int 0, .int 0, .int 0, .int 0, .null]) hC tyX0 iX0 tyX0_ok (by decide +kernel) (by decide +kernel) (by decide +kernel) rfl (fun j hj => by rcases (show j = 0 ∨ j = 1 ∨ j = 2 ∨ j = 3 ∨ j = 4 ∨ j = 5 by omega) with rfl | rfl | rfl | rfl | rfl | rfl <;> rfl) (Nat.le_of_ble_eq_true rfl) (Nat.le_of_ble_eq_true rfl) dX9_init_22 (fun h19 e20 f21 => ?_)
  have e20 : h19 (o + 1 + 2) = some (.inr (2, [.int 0, .int 0, .int 0, .int 0, .int 0, .null])) := e20
  have x22 : h19 (o + 1) = some (.inl (z 3, 16, .inr (.inr (.inr (.inr (fun _ => none)))))) := (f21 _ (by omega)).trans x17
  have x23 : h19 (o + 1 + 1) = some (.inl (z 4, 4, .inr (.inr (.inr (.inr (fun _ => none)))))) := (f21 _ (by omega)).trans x18
  have x24 : h19 o = some (.inr (11, [.ref (o + 1), .ref (o + 1 + 1), .null, .int 0, .int 0, .int 0, .int 0, .int 0, .int 0, .int 0, .int 0])) := (f21 _ (by omega)).trans e15
  refine ax_dup hC dX9_init_25 rfl ?_
  refine ax_callIN (st := [.ref (o + 1 + 2), .ref o]) hC [] (c_X0_init l D z B lo _ h19 (o + 1 + 2) e20 rfl) ⟨va_cnB 0 hC.1.2.2.2.2 gX9_init_X0_init_n25 rfl rfl rfl hC.2.2.1.2.2.2.2.2.1 (hC.1.2.2.2.2 _ (by decide +kernel)) (by decide +kernel) ⟨Nat.le_of_ble_eq_true rfl, Nat.le_of_ble_eq_true rfl⟩, rfl, hC.1.2.2.2.2 _ (by decide +kernel)⟩ rfl rfl (Nat.le_of_ble_eq_true rfl) dX9_init_26 ⟨Nat.le_of_ble_eq_true rfl, Nat.le_of_ble_eq_true rfl⟩ (fun hi25 h26 hp27 => ?_)
  obtain ⟨ei28, fr29, pd30⟩ := hp27
  subst ei28
  have x31 : h26 (o + 1) = some (.inl (z 3, 16, .inr (.inr (.inr (.inr (fun _ => none)))))) := (fr29 _ (by omega)).trans x22
  have x32 : h26 (o + 1 + 1) = some (.inl (z 4, 4, .inr (.inr (.inr (.inr (fun _ => none)))))) := (fr29 _ (by omega)).trans x23
  have x33 : h26 o = some (.inr (11, [.ref (o + 1), .ref (o + 1 + 1), .null, .int 0, .int 0, .int 0, .int 0, .int 0, .int 0, .int 0, .int 0])) := (fr29 _ (by omega)).trans x24
  refine ax_putF (v := .ref (o + 1 + 2)) (ty := .object "SessionEnds$Blame") hC tyX9 x33 iX9 tyX9_ok nmX9 rfl 2 (by decide) (by decide +kernel) rfl rfl hnm rfl (by decide +kernel) (rfl) rfl (Nat.le_of_ble_eq_true rfl) dX9_init_29 (fun h34 e35 f36 => ?_)
  have e35 : h34 o = some (.inr (11, [.ref (o + 1), .ref (o + 1 + 1), .ref (o + 1 + 2), .int 0, .int 0, .int 0, .int 0, .int 0, .int 0, .int 0, .int 0])) := e35
  have x37 : h34 (o + 1) = some (.inl (z 3, 16, .inr (.inr (.inr (.inr (fun _ => none)))))) := (f36 _ (by omega)).trans x31
  have x38 : h34 (o + 1 + 1) = some (.inl (z 4, 4, .inr (.inr (.inr (.inr (fun _ => none)))))) := (f36 _ (by omega)).trans x32
  have pd39 : BlmS z h34 (o + 1 + 2) 0 0 0 0 0 (fun _ => 0) := pd30.kept (fun q _ _ => f36 q (by omega))
  refine ax_aload_n hC 0 dX9_init_32 rfl rfl ?_
  refine ax_iconst (v := 2) hC dX9_init_33 (by decide) ?_
  refine ax_putf (v := .int 2) (ty := .int) hC tyX9 e35 iX9 tyX9_ok nmX9 rfl 4 (by decide) (by decide +kernel) rfl rfl (by decide +kernel) (rfl) rfl (Nat.le_of_ble_eq_true rfl) dX9_init_34 (fun h40 e41 f42 => ?_)
  have e41 : h40 o = some (.inr (11, [.ref (o + 1), .ref (o + 1 + 1), .ref (o + 1 + 2), .int 0, .int 2, .int 0, .int 0, .int 0, .int 0, .int 0, .int 0])) := e41
  have x43 : h40 (o + 1) = some (.inl (z 3, 16, .inr (.inr (.inr (.inr (fun _ => none)))))) := (f42 _ (by omega)).trans x37
  have x44 : h40 (o + 1 + 1) = some (.inl (z 4, 4, .inr (.inr (.inr (.inr (fun _ => none)))))) := (f42 _ (by omega)).trans x38
  have pd45 : BlmS z h40 (o + 1 + 2) 0 0 0 0 0 (fun _ => 0) := pd39.kept (fun q _ _ => f42 q (by omega))
  refine ax_iconst (v := 0) hC dX9_init_37 (by decide) ?_
  refine ax_istore_n hC [(1, .int 0), (0, .ref o)] dX9_init_38 rfl (by decide) rfl ?_
  refine ax_locals [0, 1] (L' := [(1, .int 0), (0, .ref o)]) rfl ?_
  refine ax_eqs (hi' := o + 5 + 2 * 0) (cs' := 4 + 2 * 0) (ss' := 29 + 12 * 0) (by omega) (by omega) (by omega) ?_
  exact LP1 16 0 h40 _ _ (by omega) (fun q hq => ((f42 q (by omega)).trans ((f36 q (by omega)).trans ((fr29 q (by omega)).trans ((f21 q (by omega)).trans ((f16 q (by omega)).trans ((f11 q (by omega)).trans ((f7 q (by omega)).trans (f3 q (by omega)))))))))) e41 x43 x44 (fun i hi9 => absurd hi9 (by omega)) pd45 (fun i hi9 => absurd hi9 (by omega))
