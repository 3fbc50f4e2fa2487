abbrev rmJ0_coder_7d493 : Room := { frames := 0, cells := 0, slots := 0, locals := 0 }
set_option maxRecDepth 100000 in
set_option maxHeartbeats 4000000 in
theorem c_J0_coder_7d493 (l : Launch) (D : va_G) (z : Nat → ClassId) (B : Heap) (lo hi : Nat) (h : Nat → Option va_E) (kr kv : Nat → Nat) (sa va : Nat) (hs : StV kr kv h sa va) : Met l yJ0_coder_7d493 wsJ0_coder_7d493 rmJ0_coder_7d493 (KPs D vwCl B lo hi h kr kv (ty6 z) [.ref sa]) (KQp D vwCl B lo hi h (ty6 z) (fun r => r = 0)) 0 0 (fun q => lo ≤ q) := by
  refine ax_metS (by decide) rfl (Nat.le_of_ble_eq_true rfl) (L0 := [(0, .ref sa)]) rfl ?_
  intro p e s m args below meth c hC hX hr hlocks hnm hargs
  have iJ0 : ∀ w ∈ u_ws RJ0 TJ0 4, w ∈ wsJ0_coder_7d493 := by decide +kernel
  refine ax_getsC hC hX (by decide +kernel) dJ0_coder_7d493_0 ?_
  refine ax_if_eq (tgt := 13) hC dJ0_coder_7d493_3 (by decide) (fun c1 => ?_) (fun c1 => ?_)
  · exact absurd c1 (by decide)
  · refine ax_aload_n hC 0 dJ0_coder_7d493_6 rfl rfl ?_
    refine ax_getSc hC hX hs iJ0 rfl (by decide +kernel) dJ0_coder_7d493_7 ?_
    refine ax_goto (tgt := 14) hC dJ0_coder_7d493_10 (by decide) ?_
    refine ax_nret hC hr rfl hlocks dJ0_coder_7d493_14 ?_
    exact ⟨rfl, rfl, rfl⟩

abbrev rmJ0_length_8abf5 : Room := { frames := 1, cells := 0, slots := 0, locals := 20 }
set_option maxRecDepth 100000 in
set_option maxHeartbeats 4000000 in
theorem c_J0_length_8abf5 (l : Launch) (D : va_G) (z : Nat → ClassId) (B : Heap) (lo hi : Nat) (h : Nat → Option va_E) (kr kv : Nat → Nat) (sa va : Nat) (tx : List Nat) (hs : StV kr kv h sa va) (ht : ByA z kv h va tx) (hl : tx.length ≤ 1000) : Met l yJ0_length_8abf5 wsJ0_length_8abf5 rmJ0_length_8abf5 (KPs D vwCl B lo hi h kr kv (ty6 z) [.ref sa]) (KQp D vwCl B lo hi h (ty6 z) (fun r => r = nI tx.length)) 0 0 (fun q => lo ≤ q) := by
  refine ax_metS (by decide) rfl (Nat.le_of_ble_eq_true rfl) (L0 := [(0, .ref sa)]) rfl ?_
  intro p e s m args below meth c hC hX hr hlocks hnm hargs
  have iJ0 : ∀ w ∈ u_ws RJ0 TJ0 4, w ∈ wsJ0_length_8abf5 := by decide +kernel
  refine ax_aload_n hC 0 dJ0_length_8abf5_0 rfl rfl ?_
  refine ax_getSv hC hX hs iJ0 rfl (by decide +kernel) dJ0_length_8abf5_1 ?_
  refine ax_alenB hC hX ht dJ0_length_8abf5_4 ?_
  refine ax_aload_n hC 0 dJ0_length_8abf5_5 rfl rfl ?_
  refine ax_sVp (st := [.int (nI tx.length)]) hC hX [] (rc_s hC hX hs rfl) (c_J0_coder_7d493 l D z B lo _ _ kr kv sa _ hs) (cwV 0 hC.1.2.2.2.2 gJ0_length_8abf5_J0_coder_7d493 rfl rfl rfl (by decide +kernel) ⟨Nat.le_of_ble_eq_true rfl, Nat.le_of_ble_eq_true rfl⟩) rfl rfl (Nat.le_of_ble_eq_true rfl) dJ0_length_8abf5_6 ⟨Nat.le_of_ble_eq_true rfl, Nat.le_of_ble_eq_true rfl⟩ (fun r1 er2 => ?_)
  subst er2
  refine ax_ishr hC dJ0_length_8abf5_9 ?_
  refine ax_eqi (y := nI tx.length) (shr0 _) ?_
  refine ax_iret hC hr hlocks dJ0_length_8abf5_10 ?_
  exact ⟨rfl, rfl, rfl⟩

abbrev rmJ0_isLatin1_aae02 : Room := { frames := 0, cells := 0, slots := 0, locals := 0 }
set_option maxRecDepth 100000 in
set_option maxHeartbeats 4000000 in
theorem c_J0_isLatin1_aae02 (l : Launch) (D : va_G) (z : Nat → ClassId) (B : Heap) (lo hi : Nat) (h : Nat → Option va_E) (kr kv : Nat → Nat) (sa va : Nat) (hs : StV kr kv h sa va) : Met l yJ0_isLatin1_aae02 wsJ0_isLatin1_aae02 rmJ0_isLatin1_aae02 (KPs D vwCl B lo hi h kr kv (ty6 z) [.ref sa]) (KQp D vwCl B lo hi h (ty6 z) (fun r => r = 1)) 0 0 (fun q => lo ≤ q) := by
  refine ax_metS (by decide) rfl (Nat.le_of_ble_eq_true rfl) (L0 := [(0, .ref sa)]) rfl ?_
  intro p e s m args below meth c hC hX hr hlocks hnm hargs
  have iJ0 : ∀ w ∈ u_ws RJ0 TJ0 4, w ∈ wsJ0_isLatin1_aae02 := by decide +kernel
  refine ax_getsC hC hX (by decide +kernel) dJ0_isLatin1_aae02_0 ?_
  refine ax_if_eq (tgt := 17) hC dJ0_isLatin1_aae02_3 (by decide) (fun c1 => ?_) (fun c1 => ?_)
  · exact absurd c1 (by decide)
  · refine ax_aload_n hC 0 dJ0_isLatin1_aae02_6 rfl rfl ?_
    refine ax_getSc hC hX hs iJ0 rfl (by decide +kernel) dJ0_isLatin1_aae02_7 ?_
    refine ax_if_ne (tgt := 17) hC dJ0_isLatin1_aae02_10 (by decide) (fun c2 => ?_) (fun c2 => ?_)
    · exact absurd c2 (by decide)
    · refine ax_iconst (v := 1) hC dJ0_isLatin1_aae02_13 (by decide) ?_
      refine ax_goto (tgt := 18) hC dJ0_isLatin1_aae02_14 (by decide) ?_
      refine ax_zret hC hr hlocks dJ0_isLatin1_aae02_18 (by decide) ?_
      exact ⟨rfl, rfl, rfl⟩

abbrev rmJ3_checkIndex_8e157 : Room := { frames := 0, cells := 0, slots := 0, locals := 0 }
set_option maxRecDepth 100000 in
set_option maxHeartbeats 4000000 in
theorem c_J3_checkIndex_8e157 (l : Launch) (D : va_G) (z : Nat → ClassId) (B : Heap) (lo hi : Nat) (h : Nat → Option va_E) (kr kv : Nat → Nat) (ix nx : Nat) (hx : ix < nx) (hn : nx ≤ 100000) : Met l yJ3_checkIndex_8e157 wsJ3_checkIndex_8e157 rmJ3_checkIndex_8e157 (KPs D vwCl B lo hi h kr kv (ty6 z) [.int (nI ix), .int (nI nx), .null]) (KQp D vwCl B lo hi h (ty6 z) (fun r => r = nI ix)) 0 0 (fun q => lo ≤ q) := by
  refine ax_metS (by decide) rfl (Nat.le_of_ble_eq_true rfl) (L0 := [(0, .int (nI ix)), (1, .int (nI nx)), (2, .null)]) rfl ?_
  intro p e s m args below meth c hC hX hr hlocks hnm hargs
  refine ax_iload_n hC 0 dJ3_checkIndex_8e157_0 rfl rfl ?_
  refine ax_if_lt (tgt := 9) hC dJ3_checkIndex_8e157_1 (by decide) (fun c1 => ?_) (fun c1 => ?_)
  · exact absurd c1 (nI_pos (by omega))
  · refine ax_iload_n hC 0 dJ3_checkIndex_8e157_4 rfl rfl ?_
    refine ax_iload_n hC 1 dJ3_checkIndex_8e157_5 rfl rfl ?_
    refine ax_icmp_lt (tgt := 16) hC dJ3_checkIndex_8e157_6 (by decide) (fun c2 => ?_) (fun c2 => ?_)
    · refine ax_iload_n hC 0 dJ3_checkIndex_8e157_16 rfl rfl ?_
      refine ax_iret hC hr hlocks dJ3_checkIndex_8e157_17 ?_
      exact ⟨rfl, rfl, rfl⟩
    · exact absurd (nI_lt hx (by omega)) c2

set_option maxRecDepth 100000 in
set_option maxHeartbeats 4000000 in
theorem c_J3_checkIndex_8e157_r (l : Launch) (D : va_G) (z : Nat → ClassId) (B : Heap) (lo hi : Nat) (h : Nat → Option va_E) (kr kv : Nat → Nat) (ix nx : Nat) (fr : Nat) (hx : ix < nx) (hn : nx ≤ 100000) : Met l yJ3_checkIndex_8e157 wsJ3_checkIndex_8e157 rmJ3_checkIndex_8e157 (KPs D vwCl B lo hi h kr kv (ty6 z) [.int (nI ix), .int (nI nx), .ref fr]) (KQp D vwCl B lo hi h (ty6 z) (fun r => r = nI ix)) 0 0 (fun q => lo ≤ q) := by
  refine ax_metS (by decide) rfl (Nat.le_of_ble_eq_true rfl) (L0 := [(0, .int (nI ix)), (1, .int (nI nx)), (2, .ref fr)]) rfl ?_
  intro p e s m args below meth c hC hX hr hlocks hnm hargs
  refine ax_iload_n hC 0 dJ3_checkIndex_8e157_0 rfl rfl ?_
  refine ax_if_lt (tgt := 9) hC dJ3_checkIndex_8e157_1 (by decide) (fun c1 => ?_) (fun c1 => ?_)
  · exact absurd c1 (nI_pos (by omega))
  · refine ax_iload_n hC 0 dJ3_checkIndex_8e157_4 rfl rfl ?_
    refine ax_iload_n hC 1 dJ3_checkIndex_8e157_5 rfl rfl ?_
    refine ax_icmp_lt (tgt := 16) hC dJ3_checkIndex_8e157_6 (by decide) (fun c2 => ?_) (fun c2 => ?_)
    · refine ax_iload_n hC 0 dJ3_checkIndex_8e157_16 rfl rfl ?_
      refine ax_iret hC hr hlocks dJ3_checkIndex_8e157_17 ?_
      exact ⟨rfl, rfl, rfl⟩
    · exact absurd (nI_lt hx (by omega)) c2

abbrev rmJ0_checkIndex_df160 : Room := { frames := 1, cells := 0, slots := 0, locals := 22 }
set_option maxRecDepth 100000 in
set_option maxHeartbeats 4000000 in
theorem c_J0_checkIndex_df160 (l : Launch) (D : va_G) (z : Nat → ClassId) (B : Heap) (lo hi : Nat) (h : Nat → Option va_E) (kr kv : Nat → Nat) (ix nx : Nat) (hx : ix < nx) (hn : nx ≤ 100000) : Met l yJ0_checkIndex_df160 wsJ0_checkIndex_df160 rmJ0_checkIndex_df160 (KPs D vwCl B lo hi h kr kv (ty6 z) [.int (nI ix), .int (nI nx)]) (KQv D vwCl B lo (ty6 z) (fun hi9 h9 => hi9 = hi ∧ h9 = h)) 0 0 (fun q => lo ≤ q) := by
  refine ax_metS (by decide) rfl (Nat.le_of_ble_eq_true rfl) (L0 := [(0, .int (nI ix)), (1, .int (nI nx))]) rfl ?_
  intro p e s m args below meth c hC hX hr hlocks hnm hargs
  refine ax_iload_n hC 0 dJ0_checkIndex_df160_0 rfl rfl ?_
  refine ax_iload_n hC 1 dJ0_checkIndex_df160_1 rfl rfl ?_
  refine ax_getsF hC hX (by decide +kernel) dJ0_checkIndex_df160_2 ?_ (fun fr => ?_)
  · refine ax_sSp (st := []) hC hX [.int (nI ix), .int (nI nx), .null] (c_J3_checkIndex_8e157 l D z B lo _ _ kr kv ix nx  (by omega) (by omega)) (va_cwS 3 hC.1.2.2.2.2 gJ0_checkIndex_df160_J3_checkIndex_8e157 rfl rfl rfl (by decide +kernel) ⟨Nat.le_of_ble_eq_true rfl, Nat.le_of_ble_eq_true rfl⟩) rfl rfl (Nat.le_of_ble_eq_true rfl) dJ0_checkIndex_df160_5 ⟨Nat.le_of_ble_eq_true rfl, Nat.le_of_ble_eq_true rfl⟩ (fun r1 er2 => ?_)
    subst er2
    refine ax_pop hC dJ0_checkIndex_df160_8 rfl ?_
    refine ax_vret hC hr hlocks dJ0_checkIndex_df160_9 ?_
    exact ⟨rfl, rfl⟩
  · refine ax_sSp (st := []) hC hX [.int (nI ix), .int (nI nx), .ref fr] (c_J3_checkIndex_8e157_r l D z B lo _ _ kr kv ix nx fr (by omega) (by omega)) (va_cwS 3 hC.1.2.2.2.2 gJ0_checkIndex_df160_J3_checkIndex_8e157 rfl rfl rfl (by decide +kernel) ⟨Nat.le_of_ble_eq_true rfl, Nat.le_of_ble_eq_true rfl⟩) rfl rfl (Nat.le_of_ble_eq_true rfl) dJ0_checkIndex_df160_5 ⟨Nat.le_of_ble_eq_true rfl, Nat.le_of_ble_eq_true rfl⟩ (fun r3 er4 => ?_)
    subst er4
    refine ax_pop hC dJ0_checkIndex_df160_8 rfl ?_
    refine ax_vret hC hr hlocks dJ0_checkIndex_df160_9 ?_
    exact ⟨rfl, rfl⟩

abbrev rmJ1_charAt_3b067 : Room := { frames := 2, cells := 0, slots := 0, locals := 43 }
set_option maxRecDepth 100000 in
set_option maxHeartbeats 4000000 in
theorem c_J1_charAt_3b067 (l : Launch) (D : va_G) (z : Nat → ClassId) (B : Heap) (lo hi : Nat) (h : Nat → Option va_E) (kr kv : Nat → Nat) (va : Nat) (tx : List Nat) (ix : Nat) (ht : ByA z kv h va tx) (hl : tx.length ≤ 1000) (hx : ix < tx.length) : Met l yJ1_charAt_3b067 wsJ1_charAt_3b067 rmJ1_charAt_3b067 (KPs D vwCl B lo hi h kr kv (ty6 z) [.ref va, .int (nI ix)]) (KQp D vwCl B lo hi h (ty6 z) (fun r => r = nI (tx.getD ix 0))) 0 0 (fun q => lo ≤ q) := by
  refine ax_metS (by decide) rfl (Nat.le_of_ble_eq_true rfl) (L0 := [(0, .ref va), (1, .int (nI ix))]) rfl ?_
  intro p e s m args below meth c hC hX hr hlocks hnm hargs
  refine ax_iload_n hC 1 dJ1_charAt_3b067_0 rfl rfl ?_
  refine ax_aload_n hC 0 dJ1_charAt_3b067_1 rfl rfl ?_
  refine ax_alenB hC hX ht dJ1_charAt_3b067_2 ?_
  refine ax_sSn (st := []) hC hX [.int (nI ix), .int (nI tx.length)] (c_J0_checkIndex_df160 l D z B lo _ _ kr kv ix tx.length (by omega) (by omega)) (va_cwS 2 hC.1.2.2.2.2 gJ1_charAt_3b067_J0_checkIndex_df160 rfl rfl rfl (by decide +kernel) ⟨Nat.le_of_ble_eq_true rfl, Nat.le_of_ble_eq_true rfl⟩) rfl rfl (Nat.le_of_ble_eq_true rfl) dJ1_charAt_3b067_3 ⟨Nat.le_of_ble_eq_true rfl, Nat.le_of_ble_eq_true rfl⟩ ?_
  refine ax_aload_n hC 0 dJ1_charAt_3b067_6 rfl rfl ?_
  refine ax_iload_n hC 1 dJ1_charAt_3b067_7 rfl rfl ?_
  refine ax_baldB (j := ix) hC hX ht (by omega) (by omega) dJ1_charAt_3b067_8 ?_
  refine ax_sipush (v := 255) hC dJ1_charAt_3b067_9 (by decide) ?_
  refine ax_iand hC dJ1_charAt_3b067_12 ?_
  refine ax_eqi (y := nI (tx.getD ix 0)) ((nI_255 _ (ht.lt hx)).1) ?_
  refine ax_i2c hC dJ1_charAt_3b067_13 rfl ?_
  refine ax_eqi (y := nI (tx.getD ix 0)) ((nI_255 _ (ht.lt hx)).2.2.1) ?_
  refine ax_nret hC hr (nI_255 _ (ht.lt hx)).2.2.2.2.2.2 hlocks dJ1_charAt_3b067_14 ?_
  exact ⟨rfl, rfl, rfl⟩

abbrev rmJ0_charAt_5068e : Room := { frames := 3, cells := 0, slots := 0, locals := 64 }
set_option maxRecDepth 100000 in
set_option maxHeartbeats 4000000 in
theorem c_J0_charAt_5068e (l : Launch) (D : va_G) (z : Nat → ClassId) (B : Heap) (lo hi : Nat) (h : Nat → Option va_E) (kr kv : Nat → Nat) (sa va : Nat) (tx : List Nat) (ix : Nat) (hs : StV kr kv h sa va) (ht : ByA z kv h va tx) (hl : tx.length ≤ 1000) (hx : ix < tx.length) : Met l yJ0_charAt_5068e wsJ0_charAt_5068e rmJ0_charAt_5068e (KPs D vwCl B lo hi h kr kv (ty6 z) [.ref sa, .int (nI ix)]) (KQp D vwCl B lo hi h (ty6 z) (fun r => r = nI (tx.getD ix 0))) 0 0 (fun q => lo ≤ q) := by
  refine ax_metS (by decide) rfl (Nat.le_of_ble_eq_true rfl) (L0 := [(0, .ref sa), (1, .int (nI ix))]) rfl ?_
  intro p e s m args below meth c hC hX hr hlocks hnm hargs
  have iJ0 : ∀ w ∈ u_ws RJ0 TJ0 4, w ∈ wsJ0_charAt_5068e := by decide +kernel
  refine ax_aload_n hC 0 dJ0_charAt_5068e_0 rfl rfl ?_
  refine ax_sVp (st := []) hC hX [] (rc_s hC hX hs rfl) (c_J0_isLatin1_aae02 l D z B lo _ _ kr kv sa _ hs) (cwV 0 hC.1.2.2.2.2 gJ0_charAt_5068e_J0_isLatin1_aae02 rfl rfl rfl (by decide +kernel) ⟨Nat.le_of_ble_eq_true rfl, Nat.le_of_ble_eq_true rfl⟩) rfl rfl (Nat.le_of_ble_eq_true rfl) dJ0_charAt_5068e_1 ⟨Nat.le_of_ble_eq_true rfl, Nat.le_of_ble_eq_true rfl⟩ (fun r1 er2 => ?_)
  subst er2
  refine ax_if_eq (tgt := 16) hC dJ0_charAt_5068e_4 (by decide) (fun c3 => ?_) (fun c3 => ?_)
  · exact absurd c3 (by decide)
  · refine ax_aload_n hC 0 dJ0_charAt_5068e_7 rfl rfl ?_
    refine ax_getSv hC hX hs iJ0 rfl (by decide +kernel) dJ0_charAt_5068e_8 ?_
    refine ax_iload_n hC 1 dJ0_charAt_5068e_11 rfl rfl ?_
    refine ax_sSp (st := []) hC hX [.ref va, .int (nI ix)] (c_J1_charAt_3b067 l D z B lo _ _ kr kv va _ ix ht (by omega) (by omega)) (va_cwS 2 hC.1.2.2.2.2 gJ0_charAt_5068e_J1_charAt_3b067 rfl rfl rfl (by decide +kernel) ⟨Nat.le_of_ble_eq_true rfl, Nat.le_of_ble_eq_true rfl⟩) rfl rfl (Nat.le_of_ble_eq_true rfl) dJ0_charAt_5068e_12 ⟨Nat.le_of_ble_eq_true rfl, Nat.le_of_ble_eq_true rfl⟩ (fun r4 er5 => ?_)
    subst er5
    refine ax_nret hC hr (nI_255 _ (ht.lt hx)).2.2.2.2.2.2 hlocks dJ0_charAt_5068e_15 ?_
    exact ⟨rfl, rfl, rfl⟩

abbrev rmJ0_getBytes_840e7 : Room := { frames := 1, cells := 0, slots := 0, locals := 40 }
set_option maxRecDepth 100000 in
set_option maxHeartbeats 4000000 in
theorem c_J0_getBytes_840e7 (l : Launch) (D : va_G) (z : Nat → ClassId) (B : Heap) (lo hi : Nat) (h : Nat → Option va_E) (kr kv : Nat → Nat) (sa va da nn cap : Nat) (tx : List Nat) (f : Nat → Int32) (hs : StV kr kv h sa va) (ht : ByA z kv h va tx) (hl : tx.length ≤ 1000) (hd : h da = some (.inl (z 0, cap, .inl f))) (hb : nn + tx.length ≤ cap) (hc : cap ≤ 100000) : Met l yJ0_getBytes_840e7 wsJ0_getBytes_840e7 rmJ0_getBytes_840e7 (KPs D vwCl B lo hi h kr kv (ty6 z) [.ref sa, .ref da, .int (nI nn), .int 0]) (KQv D vwCl B lo (ty6 z) (fun hi' h' => hi' = hi ∧ (∃ g : Nat → Int32, h' da = some (.inl (z 0, cap, .inl g)) ∧ ExB g f nn tx) ∧ ∀ q, q ≠ da → h' q = h q)) 0 0 (fun q => lo ≤ q) := by
  refine ax_metS (by decide) rfl (Nat.le_of_ble_eq_true rfl) (L0 := [(0, .ref sa), (1, .ref da), (2, .int (nI nn)), (3, .int 0)]) rfl ?_
  intro p e s m args below meth c hC hX hr hlocks hnm hargs
  have iJ0 : ∀ w ∈ u_ws RJ0 TJ0 4, w ∈ wsJ0_getBytes_840e7 := by decide +kernel
  refine ax_aload_n hC 0 dJ0_getBytes_840e7_0 rfl rfl ?_
  refine ax_sVp (st := []) hC hX [] (rc_s hC hX hs rfl) (c_J0_coder_7d493 l D z B lo _ _ kr kv sa _ hs) (cwV 0 hC.1.2.2.2.2 gJ0_getBytes_840e7_J0_coder_7d493 rfl rfl rfl (by decide +kernel) ⟨Nat.le_of_ble_eq_true rfl, Nat.le_of_ble_eq_true rfl⟩) rfl rfl (Nat.le_of_ble_eq_true rfl) dJ0_getBytes_840e7_1 ⟨Nat.le_of_ble_eq_true rfl, Nat.le_of_ble_eq_true rfl⟩ (fun r1 er2 => ?_)
  subst er2
  refine ax_iload_n hC 3 dJ0_getBytes_840e7_4 rfl rfl ?_
  refine ax_icmp_ne (tgt := 28) hC dJ0_getBytes_840e7_5 (by decide) (fun c3 => ?_) (fun c3 => ?_)
  · exact absurd c3 (by decide)
  · refine ax_aload_n hC 0 dJ0_getBytes_840e7_8 rfl rfl ?_
    refine ax_getSv hC hX hs iJ0 rfl (by decide +kernel) dJ0_getBytes_840e7_9 ?_
    refine ax_iconst (v := 0) hC dJ0_getBytes_840e7_12 (by decide) ?_
    refine ax_aload_n hC 1 dJ0_getBytes_840e7_13 rfl rfl ?_
    refine ax_iload_n hC 2 dJ0_getBytes_840e7_14 rfl rfl ?_
    refine ax_iload_n hC 3 dJ0_getBytes_840e7_15 rfl rfl ?_
    refine ax_ishl hC dJ0_getBytes_840e7_16 ?_
    refine ax_eqi (y := nI nn) (shl0 _) ?_
    refine ax_aload_n hC 0 dJ0_getBytes_840e7_17 rfl rfl ?_
    refine ax_getSv hC hX hs iJ0 rfl (by decide +kernel) dJ0_getBytes_840e7_18 ?_
    refine ax_alenB hC hX ht dJ0_getBytes_840e7_21 ?_
    refine ax_copyT hC hX (by decide +kernel) (by decide +kernel) (by decide +kernel) (by decide +kernel) ht hd (nI_pos (by omega)) (by omega) (by rw [nI_clamp (by omega)]; omega) (Nat.le_of_ble_eq_true rfl) (Nat.le_of_ble_eq_true rfl) dJ0_getBytes_840e7_22 (fun h6 fy4 hfy5 e7 f8 => ?_)
    rw [nI_clamp (by omega)] at e7
    refine ax_goto (tgt := 43) hC dJ0_getBytes_840e7_25 (by decide) ?_
    refine ax_vret hC hr hlocks dJ0_getBytes_840e7_43 ?_
    exact ⟨rfl, ⟨_, e7, ExB.cpy hfy5⟩, fun q hq => (f8 q (by omega))⟩

abbrev rmJ5_isLatin1_aae02 : Room := { frames := 0, cells := 0, slots := 0, locals := 0 }
set_option maxRecDepth 100000 in
set_option maxHeartbeats 4000000 in
theorem c_J5_isLatin1_aae02 (l : Launch) (D : va_G) (z : Nat → ClassId) (B : Heap) (lo hi : Nat) (h : Nat → Option va_E) (kr kv : Nat → Nat) (ba wa : Nat) (ml kk : Int32) (hb : h ba = some (.inr (1, [.ref wa, .int 0, .int ml, .int kk]))) : Met l yJ5_isLatin1_aae02 wsJ5_isLatin1_aae02 rmJ5_isLatin1_aae02 (KPs D vwCl B lo hi h kr kv (ty6 z) [.ref ba]) (KQp D vwCl B lo hi h (ty6 z) (fun r => r = 1)) 0 0 (fun q => lo ≤ q) := by
  refine ax_metS (by decide) rfl (Nat.le_of_ble_eq_true rfl) (L0 := [(0, .ref ba)]) rfl ?_
  intro p e s m args below meth c hC hX hr hlocks hnm hargs
  have iJ4 : ∀ w ∈ u_ws RJ4 TJ4 4, w ∈ wsJ5_isLatin1_aae02 := by decide +kernel
  refine ax_getsC hC hX (by decide +kernel) dJ5_isLatin1_aae02_0 ?_
  refine ax_if_eq (tgt := 17) hC dJ5_isLatin1_aae02_3 (by decide) (fun c1 => ?_) (fun c1 => ?_)
  · exact absurd c1 (by decide)
  · refine ax_aload_n hC 0 dJ5_isLatin1_aae02_6 rfl rfl ?_
    refine ax_getf (v := .int 0) hC hb iJ4 rfl 1 (by decide) (by decide +kernel) rfl rfl dJ5_isLatin1_aae02_7 ?_
    refine ax_if_ne (tgt := 17) hC dJ5_isLatin1_aae02_10 (by decide) (fun c2 => ?_) (fun c2 => ?_)
    · exact absurd c2 (by decide)
    · refine ax_iconst (v := 1) hC dJ5_isLatin1_aae02_13 (by decide) ?_
      refine ax_goto (tgt := 18) hC dJ5_isLatin1_aae02_14 (by decide) ?_
      refine ax_zret hC hr hlocks dJ5_isLatin1_aae02_18 (by decide) ?_
      exact ⟨rfl, rfl, rfl⟩

abbrev rmJ5_getValue_6d5f1 : Room := { frames := 0, cells := 0, slots := 0, locals := 0 }
set_option maxRecDepth 100000 in
set_option maxHeartbeats 4000000 in
theorem c_J5_getValue_6d5f1 (l : Launch) (D : va_G) (z : Nat → ClassId) (B : Heap) (lo hi : Nat) (h : Nat → Option va_E) (kr kv : Nat → Nat) (ba wa : Nat) (ml kk : Int32) (hb : h ba = some (.inr (1, [.ref wa, .int 0, .int ml, .int kk]))) : Met l yJ5_getValue_6d5f1 wsJ5_getValue_6d5f1 rmJ5_getValue_6d5f1 (KPs D vwCl B lo hi h kr kv (ty6 z) [.ref ba]) (KQq D vwCl B lo (ty6 z) (fun r hi9 h9 => r = some wa ∧ hi9 = hi ∧ h9 = h)) 0 0 (fun q => lo ≤ q) := by
  refine ax_metS (by decide) rfl (Nat.le_of_ble_eq_true rfl) (L0 := [(0, .ref ba)]) rfl ?_
  intro p e s m args below meth c hC hX hr hlocks hnm hargs
  have iJ4 : ∀ w ∈ u_ws RJ4 TJ4 4, w ∈ wsJ5_getValue_6d5f1 := by decide +kernel
  refine ax_aload_n hC 0 dJ5_getValue_6d5f1_0 rfl rfl ?_
  refine ax_getf (v := .ref wa) hC hb iJ4 rfl 0 (by decide) (by decide +kernel) rfl rfl dJ5_getValue_6d5f1_1 ?_
  refine ax_aretA hC (some wa) hr hlocks dJ5_getValue_6d5f1_4 ?_
  exact ⟨rfl, rfl, rfl⟩

abbrev rmJ5_length_8abf5 : Room := { frames := 0, cells := 0, slots := 0, locals := 0 }
set_option maxRecDepth 100000 in
set_option maxHeartbeats 4000000 in
theorem c_J5_length_8abf5 (l : Launch) (D : va_G) (z : Nat → ClassId) (B : Heap) (lo hi : Nat) (h : Nat → Option va_E) (kr kv : Nat → Nat) (ba wa : Nat) (ml kk : Int32) (hb : h ba = some (.inr (1, [.ref wa, .int 0, .int ml, .int kk]))) : Met l yJ5_length_8abf5 wsJ5_length_8abf5 rmJ5_length_8abf5 (KPs D vwCl B lo hi h kr kv (ty6 z) [.ref ba]) (KQp D vwCl B lo hi h (ty6 z) (fun r => r = kk)) 0 0 (fun q => lo ≤ q) := by
  refine ax_metS (by decide) rfl (Nat.le_of_ble_eq_true rfl) (L0 := [(0, .ref ba)]) rfl ?_
  intro p e s m args below meth c hC hX hr hlocks hnm hargs
  have iJ4 : ∀ w ∈ u_ws RJ4 TJ4 4, w ∈ wsJ5_length_8abf5 := by decide +kernel
  refine ax_aload_n hC 0 dJ5_length_8abf5_0 rfl rfl ?_
  refine ax_getf (v := .int kk) hC hb iJ4 rfl 3 (by decide) (by decide +kernel) rfl rfl dJ5_length_8abf5_1 ?_
  refine ax_iret hC hr hlocks dJ5_length_8abf5_4 ?_
  exact ⟨rfl, rfl, rfl⟩

abbrev rmJ4_length_8abf5 : Room := { frames := 1, cells := 0, slots := 0, locals := 20 }
set_option maxRecDepth 100000 in
set_option maxHeartbeats 4000000 in
theorem c_J4_length_8abf5 (l : Launch) (D : va_G) (z : Nat → ClassId) (B : Heap) (lo hi : Nat) (h : Nat → Option va_E) (kr kv : Nat → Nat) (ba wa : Nat) (ml kk : Int32) (hb : h ba = some (.inr (1, [.ref wa, .int 0, .int ml, .int kk]))) : Met l yJ4_length_8abf5 wsJ4_length_8abf5 rmJ4_length_8abf5 (KPs D vwCl B lo hi h kr kv (ty6 z) [.ref ba]) (KQp D vwCl B lo hi h (ty6 z) (fun r => r = kk)) 0 0 (fun q => lo ≤ q) := by
  refine ax_metS (by decide) rfl (Nat.le_of_ble_eq_true rfl) (L0 := [(0, .ref ba)]) rfl ?_
  intro p e s m args below meth c hC hX hr hlocks hnm hargs
  refine ax_aload_n hC 0 dJ4_length_8abf5_0 rfl rfl ?_
  refine ax_sSUp (st := []) hC hX [] (rc_h hC hb rfl) (hat_J4 hC rfl) (c_J5_length_8abf5 l D z B lo _ _ kr kv ba _ _ _ hb) (va_cwSU 0 hC.1.2.2.2.2 gJ4_length_8abf5_J5_length_8abf5_s343 rfl rfl rfl (by decide +kernel) ⟨Nat.le_of_ble_eq_true rfl, Nat.le_of_ble_eq_true rfl⟩) rfl rfl (Nat.le_of_ble_eq_true rfl) dJ4_length_8abf5_1 ⟨Nat.le_of_ble_eq_true rfl, Nat.le_of_ble_eq_true rfl⟩ (fun r1 er2 => ?_)
  subst er2
  refine ax_iret hC hr hlocks dJ4_length_8abf5_4 ?_
  exact ⟨rfl, rfl, rfl⟩

abbrev rmJ5_inflateIfNeededFor_a7421 : Room := { frames := 1, cells := 0, slots := 0, locals := 20 }
set_option maxRecDepth 100000 in
set_option maxHeartbeats 4000000 in
theorem c_J5_inflateIfNeededFor_a7421 (l : Launch) (D : va_G) (z : Nat → ClassId) (B : Heap) (lo hi : Nat) (h : Nat → Option va_E) (kr kv : Nat → Nat) (ba wa : Nat) (ml kk : Int32) (sa va : Nat) (hb : h ba = some (.inr (1, [.ref wa, .int 0, .int ml, .int kk]))) (hs : StV kr kv h sa va) : Met l yJ5_inflateIfNeededFor_a7421 wsJ5_inflateIfNeededFor_a7421 rmJ5_inflateIfNeededFor_a7421 (KPs D vwCl B lo hi h kr kv (ty6 z) [.ref ba, .ref sa]) (KQv D vwCl B lo (ty6 z) (fun hi9 h9 => hi9 = hi ∧ h9 = h)) 0 0 (fun q => lo ≤ q) := by
  refine ax_metS (by decide) rfl (Nat.le_of_ble_eq_true rfl) (L0 := [(0, .ref ba), (1, .ref sa)]) rfl ?_
  intro p e s m args below meth c hC hX hr hlocks hnm hargs
  have iJ4 : ∀ w ∈ u_ws RJ4 TJ4 4, w ∈ wsJ5_inflateIfNeededFor_a7421 := by decide +kernel
  refine ax_getsC hC hX (by decide +kernel) dJ5_inflateIfNeededFor_a7421_0 ?_
  refine ax_if_eq (tgt := 21) hC dJ5_inflateIfNeededFor_a7421_3 (by decide) (fun c1 => ?_) (fun c1 => ?_)
  · exact absurd c1 (by decide)
  · refine ax_aload_n hC 0 dJ5_inflateIfNeededFor_a7421_6 rfl rfl ?_
    refine ax_getf (v := .int 0) hC hb iJ4 rfl 1 (by decide) (by decide +kernel) rfl rfl dJ5_inflateIfNeededFor_a7421_7 ?_
    refine ax_aload_n hC 1 dJ5_inflateIfNeededFor_a7421_10 rfl rfl ?_
    refine ax_sVp (st := [.int 0]) hC hX [] (rc_s hC hX hs rfl) (c_J0_coder_7d493 l D z B lo _ _ kr kv sa _ hs) (cwV 0 hC.1.2.2.2.2 gJ5_inflateIfNeededFor_a7421_J0_coder_7d493 rfl rfl rfl (by decide +kernel) ⟨Nat.le_of_ble_eq_true rfl, Nat.le_of_ble_eq_true rfl⟩) rfl rfl (Nat.le_of_ble_eq_true rfl) dJ5_inflateIfNeededFor_a7421_11 ⟨Nat.le_of_ble_eq_true rfl, Nat.le_of_ble_eq_true rfl⟩ (fun r2 er3 => ?_)
    subst er3
    refine ax_icmp_eq (tgt := 21) hC dJ5_inflateIfNeededFor_a7421_14 (by decide) (fun c4 => ?_) (fun c4 => ?_)
    · refine ax_vret hC hr hlocks dJ5_inflateIfNeededFor_a7421_21 ?_
      exact ⟨rfl, rfl⟩
    · exact absurd c4 (by decide)

abbrev rmJ1_canEncode_fc78d : Room := { frames := 0, cells := 0, slots := 0, locals := 0 }
set_option maxRecDepth 100000 in
set_option maxHeartbeats 4000000 in
theorem c_J1_canEncode_fc78d (l : Launch) (D : va_G) (z : Nat → ClassId) (B : Heap) (lo hi : Nat) (h : Nat → Option va_E) (kr kv : Nat → Nat) (ch : Nat) (hc : ch < 128) : Met l yJ1_canEncode_fc78d wsJ1_canEncode_fc78d rmJ1_canEncode_fc78d (KPs D vwCl B lo hi h kr kv (ty6 z) [.int (nI ch)]) (KQp D vwCl B lo hi h (ty6 z) (fun r => r = 1)) 0 0 (fun q => lo ≤ q) := by
  refine ax_metS (by decide) rfl (Nat.le_of_ble_eq_true rfl) (L0 := [(0, .int (nI ch))]) rfl ?_
  intro p e s m args below meth c hC hX hr hlocks hnm hargs
  refine ax_iload_n hC 0 dJ1_canEncode_fc78d_0 rfl rfl ?_
  refine ax_sipush (v := 255) hC dJ1_canEncode_fc78d_1 (by decide) ?_
  refine ax_icmp_gt (tgt := 11) hC dJ1_canEncode_fc78d_4 (by decide) (fun c1 => ?_) (fun c1 => ?_)
  · exact absurd c1 (show ¬ nI 255 < nI ch from nI_nlt (by omega) (by decide))
  · refine ax_iconst (v := 1) hC dJ1_canEncode_fc78d_7 (by decide) ?_
    refine ax_goto (tgt := 12) hC dJ1_canEncode_fc78d_8 (by decide) ?_
    refine ax_zret hC hr hlocks dJ1_canEncode_fc78d_12 (by decide) ?_
    exact ⟨rfl, rfl, rfl⟩

abbrev rmJ7_checkLength_df160 : Room := { frames := 0, cells := 0, slots := 0, locals := 0 }
set_option maxRecDepth 100000 in
set_option maxHeartbeats 4000000 in
theorem c_J7_checkLength_df160 (l : Launch) (D : va_G) (z : Nat → ClassId) (B : Heap) (lo hi : Nat) (h : Nat → Option va_E) (kr kv : Nat → Nat) (nn : Nat) (hn : nn ≤ 100000) : Met l yJ7_checkLength_df160 wsJ7_checkLength_df160 rmJ7_checkLength_df160 (KPs D vwCl B lo hi h kr kv (ty6 z) [.int 0, .int (nI nn)]) (KQv D vwCl B lo (ty6 z) (fun hi9 h9 => hi9 = hi ∧ h9 = h)) 0 0 (fun q => lo ≤ q) := by
  refine ax_metS (by decide) rfl (Nat.le_of_ble_eq_true rfl) (L0 := [(0, .int 0), (1, .int (nI nn))]) rfl ?_
  intro p e s m args below meth c hC hX hr hlocks hnm hargs
  refine ax_iload_n hC 1 dJ7_checkLength_df160_0 rfl rfl ?_
  refine ax_iload_n hC 0 dJ7_checkLength_df160_1 rfl rfl ?_
  refine ax_icmp_ge (tgt := 37) hC dJ7_checkLength_df160_2 (by decide) (fun c1 => ?_) (fun c1 => ?_)
  · refine ax_vret hC hr hlocks dJ7_checkLength_df160_37 ?_
    exact ⟨rfl, rfl⟩
  · exact absurd (nI_pos' (by omega)) c1
