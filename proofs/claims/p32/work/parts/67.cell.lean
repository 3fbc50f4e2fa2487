abbrev rmL_cell : Room := { frames := 0, cells := 0, slots := 0, locals := 0 }
set_option maxRecDepth 100000 in
set_option maxHeartbeats 4000000 in
theorem c_L_cell (l : Launch) (D : va_G) (z : Nat → ClassId) (B : Heap) (lo hi : Nat) (h : Nat → Option va_E) (kr kv : Nat → Nat) (ix : Nat) (hx : ix ≤ 5000) : Met l yL_cell wsL_cell rmL_cell (KPs D vwCl B lo hi h kr kv (ty6 z) [.ref (kr 19), .int (nI ix)]) (KQp D vwCl B lo hi h (ty6 z) (fun r => r = nI (cnV kv ix))) 0 0 (fun q => lo ≤ q) := by
  refine ax_metS (by decide) rfl (Nat.le_of_ble_eq_true rfl) (L0 := [(0, .ref (kr 19)), (1, .int (nI ix))]) rfl ?_
  intro p e s m args below meth c hC hX hr hlocks hnm hargs
  have hk19 := hX.1.2.2.2.2.2.2
  refine ax_iload_n hC 1 dL_cell_0 rfl rfl ?_
  refine ax_aload_n hC 0 dL_cell_1 rfl rfl ?_
  refine ax_alenX hC hX dL_cell_2 ?_
  refine ax_icmp_ge (tgt := 15) hC dL_cell_3 (by decide) (fun c1 => ?_) (fun c1 => ?_)
  · refine ax_iload_n hC 1 dL_cell_15 rfl rfl ?_
    refine ax_sipush (v := 9151) hC dL_cell_16 (by decide) ?_
    refine ax_imul hC dL_cell_19 ?_
    refine ax_eqi (y := nI (cnV kv ix)) (by rw [cnV, if_neg (Nat.not_lt.mpr ((nI_leI (by omega) (by omega)).mp c1))]; exact nI_mul ix 9151) ?_
    refine ax_iret hC hr hlocks dL_cell_20 ?_
    exact ⟨rfl, rfl, rfl⟩
  · refine ax_aload_n hC 0 dL_cell_6 rfl rfl ?_
    refine ax_iload_n hC 1 dL_cell_7 rfl rfl ?_
    have k1 : ix < kv 19 := Nat.not_le.mp (mt (nI_leI (by omega) (by omega)).mpr c1)
    refine ax_ialdX (i := ix) hC hX (by omega) dL_cell_8 ?_
    refine ax_ldc (v := (16777215)) hC (by decide +kernel) dL_cell_9 ?_
    refine ax_iand hC dL_cell_11 ?_
    refine ax_eqi (y := nI (cnV kv ix)) (by rw [cnV, if_pos (Nat.not_le.mp (mt (nI_leI (by omega) (by omega)).mpr c1))]; exact (nI_mask _).1) ?_
    refine ax_goto (tgt := 20) hC dL_cell_12 (by decide) ?_
    refine ax_iret hC hr hlocks dL_cell_20 ?_
    exact ⟨rfl, rfl, rfl⟩
