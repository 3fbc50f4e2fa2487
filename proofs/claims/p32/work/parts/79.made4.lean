abbrev rmL_made__20 : Room := { frames := 9, cells := 301, slots := 64001, locals := 231 }
set_option maxRecDepth 100000 in
set_option maxHeartbeats 4000000 in
theorem c_L_made__20 (l : Launch) (D : va_G) (z : Nat → ClassId) (B : Heap) (lo hi : Nat) (h : Nat → Option va_E) (kr kv : Nat → Nat) (fr fu : Nat) (hp : fr ≤ 60) (hf : 2 ≤ fu) (hlo0 : lo ≤ hi) : Met l yL_made_ wsL_made_ rmL_made__20 (KPs D vwCl B lo hi h kr kv (ty6 z) [.ref (kr 19), .int (nI fr), .int 0, .int 2]) (KQq D vwCl B lo (ty6 z) (fun r hi' h' => ∃ sa va : Nat, r = some sa ∧ StV kr kv h' sa va ∧ ByA z kv h' va (txt fu false 0 (mkT (cnV kv) 2 0 fr).1) ∧ sa < hi' ∧ va < hi' ∧ (txt fu false 0 (mkT (cnV kv) 2 0 fr).1).length ≤ 40 ∧ (sa < lo ∨ hi ≤ sa) ∧ (va < lo ∨ hi ≤ va) ∧ hi ≤ hi' ∧ ∀ q, q < hi → h' q = h q)) 301 64001 (fun q => lo ≤ q) := by
  refine ax_metS (by decide) rfl (Nat.le_of_ble_eq_true rfl) (L0 := [(0, .ref (kr 19)), (1, .int (nI fr)), (2, .int 0), (3, .int 2)]) rfl ?_
  intro p e s m args below meth c hC hX hr hlocks hnm hargs
  refine ax_iconst (v := 1) hC dL_made__0 (by decide) ?_
  refine ax_newa (a0 := (1, .inl (fun _ => 0))) (N' := 1) hC 1 rfl (by decide +kernel) rfl (fun C q => by cases q) (fun cA => by first | rfl | simp [vp_cell, arrV, defaultValue]) (by decide) (by decide) (Nat.le_of_ble_eq_true rfl) (Nat.le_of_ble_eq_true rfl) (Nat.le_of_ble_eq_true rfl) dL_made__1 (fun h1 e2 f3 => ?_)
  have e2 : h1 hi = some (.inl (z 1, 1, .inl (fun _ => 0))) := e2
  refine ax_dup hC dL_made__3 rfl ?_
  refine ax_iconst (v := 0) hC dL_made__4 (by decide) ?_
  refine ax_iload_n hC 1 dL_made__5 rfl rfl ?_
  have b4 : vp_in 0 1 := vp_in_iff.mpr (by decide)
  refine ax_iast hC e2 1 rfl b4 dL_made__6 (fun h5 e6 f7 => ?_)
  have hlo : lo ≤ hi := hX.1.2.2.2.2.2.1 |> fun _ => hlo0
  refine ax_astore hC [(4, .ref hi), (0, .ref (kr 19)), (1, .int (nI fr)), (2, .int 0), (3, .int 2)] dL_made__7 (by decide) rfl ?_
  refine ax_aload_n hC 1 dL_made__9 rfl rfl ?_
  refine ax_aload hC 0 dL_made__10 rfl ?_
  refine ax_iload_n hC 4 dL_made__12 rfl rfl ?_
  refine ax_ldcS hC hX 1 (by decide) rfl dL_made__13 ?_
  refine ax_iload_n hC 3 dL_made__15 rfl rfl ?_
  have sv8 : StV kr kv h5 (kr 1) (kv 1) := Or.inr ⟨1, by decide, rfl, rfl⟩
  have by9 : ByA z kv h5 (kv 1) (kT 1) := Or.inr ⟨1, by decide, rfl, rfl⟩
  have lt_1 := hX.lt (i := 1) (by decide)
  have lk_1 : (kT 1).length = 0 := by decide
  refine ax_sSq (mc := 300) (ms := 64000) (st := []) hC hX [.ref (kr 19), .ref hi, .int 2, .ref (kr 1), .int 0] (c_L_made_20 l D z B lo _ _ kr kv hi fr 0 fu (kr 1) (kv 1) _ e6 (show upd (fun _ => 0) (0 : Int32).toNatClampNeg (nI fr) 0 = nI fr from rfl) (by omega) sv8 (show ByA z kv h5 (kv 1) (lps 0) from by9) (by omega) (by omega) (by omega) (by omega) (by omega) (by omega)) (va_cwS 5 hC.1.2.2.2.2 gL_made__L_made rfl rfl rfl (by decide +kernel) ⟨Nat.le_of_ble_eq_true rfl, Nat.le_of_ble_eq_true rfl⟩) rfl rfl (Nat.le_of_ble_eq_true rfl) dL_made__16 ⟨Nat.le_of_ble_eq_true rfl, Nat.le_of_ble_eq_true rfl⟩ (fun r10 hi11 h12 hp13 => ?_)
  obtain ⟨q_sq14, v_sq14, rfl, s_h12, y_h12, ⟨g_h12, a_h12, z_h12⟩, d1_h12, d2_h12, d3_h12, d4_h12, d5_h12, d6_h12, d7_h12, o1_h12, o2_h12, f_h12⟩ := hp13
  obtain ⟨tt15, e_tt15⟩ : ∃ u9 : List Nat, u9 = txt fu false 0 (mkT (cnV kv) 2 0 fr).1 := ⟨_, rfl⟩
  obtain ⟨pp16, e_pp16⟩ : ∃ u9 : Nat, u9 = (mkT (cnV kv) 2 0 fr).2 := ⟨_, rfl⟩
  rw [← e_tt15] at y_h12 d5_h12
  rw [← e_pp16] at z_h12 d6_h12
  have sv17 : StV kr kv h12 (kr 1) (kv 1) := sv8.kept (f_h12 _ (by omega) (by omega))
  have by18 : ByA z kv h12 (kv 1) (kT 1) := by9.kept (f_h12 _ (by omega) (by omega))
  refine ax_aret hC (some q_sq14) hr hlocks dL_made__19 ?_
  subst e_tt15
  exact ⟨_, _, rfl, s_h12, y_h12, by omega, by omega, by omega, by omega, by omega, by omega, fun q hq => ((f_h12 q (by omega) (by omega)).trans ((f7 q (by omega)).trans (f3 q (by omega))))⟩

abbrev rmL_made__21 : Room := { frames := 9, cells := 301, slots := 64001, locals := 231 }
set_option maxRecDepth 100000 in
set_option maxHeartbeats 4000000 in
theorem c_L_made__21 (l : Launch) (D : va_G) (z : Nat → ClassId) (B : Heap) (lo hi : Nat) (h : Nat → Option va_E) (kr kv : Nat → Nat) (fr fu : Nat) (hp : fr ≤ 60) (hf : 2 ≤ fu) (hlo0 : lo ≤ hi) : Met l yL_made_ wsL_made_ rmL_made__21 (KPs D vwCl B lo hi h kr kv (ty6 z) [.ref (kr 19), .int (nI fr), .int 1, .int 2]) (KQq D vwCl B lo (ty6 z) (fun r hi' h' => ∃ sa va : Nat, r = some sa ∧ StV kr kv h' sa va ∧ ByA z kv h' va (txt fu true 0 (mkT (cnV kv) 2 0 fr).1) ∧ sa < hi' ∧ va < hi' ∧ (txt fu true 0 (mkT (cnV kv) 2 0 fr).1).length ≤ 40 ∧ (sa < lo ∨ hi ≤ sa) ∧ (va < lo ∨ hi ≤ va) ∧ hi ≤ hi' ∧ ∀ q, q < hi → h' q = h q)) 301 64001 (fun q => lo ≤ q) := by
  refine ax_metS (by decide) rfl (Nat.le_of_ble_eq_true rfl) (L0 := [(0, .ref (kr 19)), (1, .int (nI fr)), (2, .int 1), (3, .int 2)]) rfl ?_
  intro p e s m args below meth c hC hX hr hlocks hnm hargs
  refine ax_iconst (v := 1) hC dL_made__0 (by decide) ?_
  refine ax_newa (a0 := (1, .inl (fun _ => 0))) (N' := 1) hC 1 rfl (by decide +kernel) rfl (fun C q => by cases q) (fun cA => by first | rfl | simp [vp_cell, arrV, defaultValue]) (by decide) (by decide) (Nat.le_of_ble_eq_true rfl) (Nat.le_of_ble_eq_true rfl) (Nat.le_of_ble_eq_true rfl) dL_made__1 (fun h1 e2 f3 => ?_)
  have e2 : h1 hi = some (.inl (z 1, 1, .inl (fun _ => 0))) := e2
  refine ax_dup hC dL_made__3 rfl ?_
  refine ax_iconst (v := 0) hC dL_made__4 (by decide) ?_
  refine ax_iload_n hC 1 dL_made__5 rfl rfl ?_
  have b4 : vp_in 0 1 := vp_in_iff.mpr (by decide)
  refine ax_iast hC e2 1 rfl b4 dL_made__6 (fun h5 e6 f7 => ?_)
  have hlo : lo ≤ hi := hX.1.2.2.2.2.2.1 |> fun _ => hlo0
  refine ax_astore hC [(4, .ref hi), (0, .ref (kr 19)), (1, .int (nI fr)), (2, .int 1), (3, .int 2)] dL_made__7 (by decide) rfl ?_
  refine ax_aload_n hC 1 dL_made__9 rfl rfl ?_
  refine ax_aload hC 0 dL_made__10 rfl ?_
  refine ax_iload_n hC 4 dL_made__12 rfl rfl ?_
  refine ax_ldcS hC hX 1 (by decide) rfl dL_made__13 ?_
  refine ax_iload_n hC 3 dL_made__15 rfl rfl ?_
  have sv8 : StV kr kv h5 (kr 1) (kv 1) := Or.inr ⟨1, by decide, rfl, rfl⟩
  have by9 : ByA z kv h5 (kv 1) (kT 1) := Or.inr ⟨1, by decide, rfl, rfl⟩
  have lt_1 := hX.lt (i := 1) (by decide)
  have lk_1 : (kT 1).length = 0 := by decide
  refine ax_sSq (mc := 300) (ms := 64000) (st := []) hC hX [.ref (kr 19), .ref hi, .int 2, .ref (kr 1), .int 1] (c_L_made_21 l D z B lo _ _ kr kv hi fr 0 fu (kr 1) (kv 1) _ e6 (show upd (fun _ => 0) (0 : Int32).toNatClampNeg (nI fr) 0 = nI fr from rfl) (by omega) sv8 (show ByA z kv h5 (kv 1) (lps 0) from by9) (by omega) (by omega) (by omega) (by omega) (by omega) (by omega)) (va_cwS 5 hC.1.2.2.2.2 gL_made__L_made rfl rfl rfl (by decide +kernel) ⟨Nat.le_of_ble_eq_true rfl, Nat.le_of_ble_eq_true rfl⟩) rfl rfl (Nat.le_of_ble_eq_true rfl) dL_made__16 ⟨Nat.le_of_ble_eq_true rfl, Nat.le_of_ble_eq_true rfl⟩ (fun r10 hi11 h12 hp13 => ?_)
  obtain ⟨q_sq14, v_sq14, rfl, s_h12, y_h12, ⟨g_h12, a_h12, z_h12⟩, d1_h12, d2_h12, d3_h12, d4_h12, d5_h12, d6_h12, d7_h12, o1_h12, o2_h12, f_h12⟩ := hp13
  obtain ⟨tt15, e_tt15⟩ : ∃ u9 : List Nat, u9 = txt fu true 0 (mkT (cnV kv) 2 0 fr).1 := ⟨_, rfl⟩
  obtain ⟨pp16, e_pp16⟩ : ∃ u9 : Nat, u9 = (mkT (cnV kv) 2 0 fr).2 := ⟨_, rfl⟩
  rw [← e_tt15] at y_h12 d5_h12
  rw [← e_pp16] at z_h12 d6_h12
  have sv17 : StV kr kv h12 (kr 1) (kv 1) := sv8.kept (f_h12 _ (by omega) (by omega))
  have by18 : ByA z kv h12 (kv 1) (kT 1) := by9.kept (f_h12 _ (by omega) (by omega))
  refine ax_aret hC (some q_sq14) hr hlocks dL_made__19 ?_
  subst e_tt15
  exact ⟨_, _, rfl, s_h12, y_h12, by omega, by omega, by omega, by omega, by omega, by omega, fun q hq => ((f_h12 q (by omega) (by omega)).trans ((f7 q (by omega)).trans (f3 q (by omega))))⟩

abbrev rmL_made__30 : Room := { frames := 10, cells := 661, slots := 140001, locals := 257 }
set_option maxRecDepth 100000 in
set_option maxHeartbeats 4000000 in
theorem c_L_made__30 (l : Launch) (D : va_G) (z : Nat → ClassId) (B : Heap) (lo hi : Nat) (h : Nat → Option va_E) (kr kv : Nat → Nat) (fr fu : Nat) (hp : fr ≤ 60) (hf : 3 ≤ fu) (hlo0 : lo ≤ hi) : Met l yL_made_ wsL_made_ rmL_made__30 (KPs D vwCl B lo hi h kr kv (ty6 z) [.ref (kr 19), .int (nI fr), .int 0, .int 3]) (KQq D vwCl B lo (ty6 z) (fun r hi' h' => ∃ sa va : Nat, r = some sa ∧ StV kr kv h' sa va ∧ ByA z kv h' va (txt fu false 0 (mkT (cnV kv) 3 0 fr).1) ∧ sa < hi' ∧ va < hi' ∧ (txt fu false 0 (mkT (cnV kv) 3 0 fr).1).length ≤ 92 ∧ (sa < lo ∨ hi ≤ sa) ∧ (va < lo ∨ hi ≤ va) ∧ hi ≤ hi' ∧ ∀ q, q < hi → h' q = h q)) 661 140001 (fun q => lo ≤ q) := by
  refine ax_metS (by decide) rfl (Nat.le_of_ble_eq_true rfl) (L0 := [(0, .ref (kr 19)), (1, .int (nI fr)), (2, .int 0), (3, .int 3)]) rfl ?_
  intro p e s m args below meth c hC hX hr hlocks hnm hargs
  refine ax_iconst (v := 1) hC dL_made__0 (by decide) ?_
  refine ax_newa (a0 := (1, .inl (fun _ => 0))) (N' := 1) hC 1 rfl (by decide +kernel) rfl (fun C q => by cases q) (fun cA => by first | rfl | simp [vp_cell, arrV, defaultValue]) (by decide) (by decide) (Nat.le_of_ble_eq_true rfl) (Nat.le_of_ble_eq_true rfl) (Nat.le_of_ble_eq_true rfl) dL_made__1 (fun h1 e2 f3 => ?_)
  have e2 : h1 hi = some (.inl (z 1, 1, .inl (fun _ => 0))) := e2
  refine ax_dup hC dL_made__3 rfl ?_
  refine ax_iconst (v := 0) hC dL_made__4 (by decide) ?_
  refine ax_iload_n hC 1 dL_made__5 rfl rfl ?_
  have b4 : vp_in 0 1 := vp_in_iff.mpr (by decide)
  refine ax_iast hC e2 1 rfl b4 dL_made__6 (fun h5 e6 f7 => ?_)
  have hlo : lo ≤ hi := hX.1.2.2.2.2.2.1 |> fun _ => hlo0
  refine ax_astore hC [(4, .ref hi), (0, .ref (kr 19)), (1, .int (nI fr)), (2, .int 0), (3, .int 3)] dL_made__7 (by decide) rfl ?_
  refine ax_aload_n hC 1 dL_made__9 rfl rfl ?_
  refine ax_aload hC 0 dL_made__10 rfl ?_
  refine ax_iload_n hC 4 dL_made__12 rfl rfl ?_
  refine ax_ldcS hC hX 1 (by decide) rfl dL_made__13 ?_
  refine ax_iload_n hC 3 dL_made__15 rfl rfl ?_
  have sv8 : StV kr kv h5 (kr 1) (kv 1) := Or.inr ⟨1, by decide, rfl, rfl⟩
  have by9 : ByA z kv h5 (kv 1) (kT 1) := Or.inr ⟨1, by decide, rfl, rfl⟩
  have lt_1 := hX.lt (i := 1) (by decide)
  have lk_1 : (kT 1).length = 0 := by decide
  refine ax_sSq (mc := 660) (ms := 140000) (st := []) hC hX [.ref (kr 19), .ref hi, .int 3, .ref (kr 1), .int 0] (c_L_made_30 l D z B lo _ _ kr kv hi fr 0 fu (kr 1) (kv 1) _ e6 (show upd (fun _ => 0) (0 : Int32).toNatClampNeg (nI fr) 0 = nI fr from rfl) (by omega) sv8 (show ByA z kv h5 (kv 1) (lps 0) from by9) (by omega) (by omega) (by omega) (by omega) (by omega) (by omega)) (va_cwS 5 hC.1.2.2.2.2 gL_made__L_made rfl rfl rfl (by decide +kernel) ⟨Nat.le_of_ble_eq_true rfl, Nat.le_of_ble_eq_true rfl⟩) rfl rfl (Nat.le_of_ble_eq_true rfl) dL_made__16 ⟨Nat.le_of_ble_eq_true rfl, Nat.le_of_ble_eq_true rfl⟩ (fun r10 hi11 h12 hp13 => ?_)
  obtain ⟨q_sq14, v_sq14, rfl, s_h12, y_h12, ⟨g_h12, a_h12, z_h12⟩, d1_h12, d2_h12, d3_h12, d4_h12, d5_h12, d6_h12, d7_h12, o1_h12, o2_h12, f_h12⟩ := hp13
  obtain ⟨tt15, e_tt15⟩ : ∃ u9 : List Nat, u9 = txt fu false 0 (mkT (cnV kv) 3 0 fr).1 := ⟨_, rfl⟩
  obtain ⟨pp16, e_pp16⟩ : ∃ u9 : Nat, u9 = (mkT (cnV kv) 3 0 fr).2 := ⟨_, rfl⟩
  rw [← e_tt15] at y_h12 d5_h12
  rw [← e_pp16] at z_h12 d6_h12
  have sv17 : StV kr kv h12 (kr 1) (kv 1) := sv8.kept (f_h12 _ (by omega) (by omega))
  have by18 : ByA z kv h12 (kv 1) (kT 1) := by9.kept (f_h12 _ (by omega) (by omega))
  refine ax_aret hC (some q_sq14) hr hlocks dL_made__19 ?_
  subst e_tt15
  exact ⟨_, _, rfl, s_h12, y_h12, by omega, by omega, by omega, by omega, by omega, by omega, fun q hq => ((f_h12 q (by omega) (by omega)).trans ((f7 q (by omega)).trans (f3 q (by omega))))⟩

abbrev rmL_made__31 : Room := { frames := 10, cells := 661, slots := 140001, locals := 257 }
set_option maxRecDepth 100000 in
set_option maxHeartbeats 4000000 in
theorem c_L_made__31 (l : Launch) (D : va_G) (z : Nat → ClassId) (B : Heap) (lo hi : Nat) (h : Nat → Option va_E) (kr kv : Nat → Nat) (fr fu : Nat) (hp : fr ≤ 60) (hf : 3 ≤ fu) (hlo0 : lo ≤ hi) : Met l yL_made_ wsL_made_ rmL_made__31 (KPs D vwCl B lo hi h kr kv (ty6 z) [.ref (kr 19), .int (nI fr), .int 1, .int 3]) (KQq D vwCl B lo (ty6 z) (fun r hi' h' => ∃ sa va : Nat, r = some sa ∧ StV kr kv h' sa va ∧ ByA z kv h' va (txt fu true 0 (mkT (cnV kv) 3 0 fr).1) ∧ sa < hi' ∧ va < hi' ∧ (txt fu true 0 (mkT (cnV kv) 3 0 fr).1).length ≤ 92 ∧ (sa < lo ∨ hi ≤ sa) ∧ (va < lo ∨ hi ≤ va) ∧ hi ≤ hi' ∧ ∀ q, q < hi → h' q = h q)) 661 140001 (fun q => lo ≤ q) := by
  refine ax_metS (by decide) rfl (Nat.le_of_ble_eq_true rfl) (L0 := [(0, .ref (kr 19)), (1, .int (nI fr)), (2, .int 1), (3, .int 3)]) rfl ?_
  intro p e s m args below meth c hC hX hr hlocks hnm hargs
  refine ax_iconst (v := 1) hC dL_made__0 (by decide) ?_
  refine ax_newa (a0 := (1, .inl (fun _ => 0))) (N' := 1) hC 1 rfl (by decide +kernel) rfl (fun C q => by cases q) (fun cA => by first | rfl | simp [vp_cell, arrV, defaultValue]) (by decide) (by decide) (Nat.le_of_ble_eq_true rfl) (Nat.le_of_ble_eq_true rfl) (Nat.le_of_ble_eq_true rfl) dL_made__1 (fun h1 e2 f3 => ?_)
  have e2 : h1 hi = some (.inl (z 1, 1, .inl (fun _ => 0))) := e2
  refine ax_dup hC dL_made__3 rfl ?_
  refine ax_iconst (v := 0) hC dL_made__4 (by decide) ?_
  refine ax_iload_n hC 1 dL_made__5 rfl rfl ?_
  have b4 : vp_in 0 1 := vp_in_iff.mpr (by decide)
  refine ax_iast hC e2 1 rfl b4 dL_made__6 (fun h5 e6 f7 => ?_)
  have hlo : lo ≤ hi := hX.1.2.2.2.2.2.1 |> fun _ => hlo0
  refine ax_astore hC [(4, .ref hi), (0, .ref (kr 19)), (1, .int (nI fr)), (2, .int 1), (3, .int 3)] dL_made__7 (by decide) rfl ?_
  refine ax_aload_n hC 1 dL_made__9 rfl rfl ?_
  refine ax_aload hC 0 dL_made__10 rfl ?_
  refine ax_iload_n hC 4 dL_made__12 rfl rfl ?_
  refine ax_ldcS hC hX 1 (by decide) rfl dL_made__13 ?_
  refine ax_iload_n hC 3 dL_made__15 rfl rfl ?_
  have sv8 : StV kr kv h5 (kr 1) (kv 1) := Or.inr ⟨1, by decide, rfl, rfl⟩
  have by9 : ByA z kv h5 (kv 1) (kT 1) := Or.inr ⟨1, by decide, rfl, rfl⟩
  have lt_1 := hX.lt (i := 1) (by decide)
  have lk_1 : (kT 1).length = 0 := by decide
  refine ax_sSq (mc := 660) (ms := 140000) (st := []) hC hX [.ref (kr 19), .ref hi, .int 3, .ref (kr 1), .int 1] (c_L_made_31 l D z B lo _ _ kr kv hi fr 0 fu (kr 1) (kv 1) _ e6 (show upd (fun _ => 0) (0 : Int32).toNatClampNeg (nI fr) 0 = nI fr from rfl) (by omega) sv8 (show ByA z kv h5 (kv 1) (lps 0) from by9) (by omega) (by omega) (by omega) (by omega) (by omega) (by omega)) (va_cwS 5 hC.1.2.2.2.2 gL_made__L_made rfl rfl rfl (by decide +kernel) ⟨Nat.le_of_ble_eq_true rfl, Nat.le_of_ble_eq_true rfl⟩) rfl rfl (Nat.le_of_ble_eq_true rfl) dL_made__16 ⟨Nat.le_of_ble_eq_true rfl, Nat.le_of_ble_eq_true rfl⟩ (fun r10 hi11 h12 hp13 => ?_)
  obtain ⟨q_sq14, v_sq14, rfl, s_h12, y_h12, ⟨g_h12, a_h12, z_h12⟩, d1_h12, d2_h12, d3_h12, d4_h12, d5_h12, d6_h12, d7_h12, o1_h12, o2_h12, f_h12⟩ := hp13
  obtain ⟨tt15, e_tt15⟩ : ∃ u9 : List Nat, u9 = txt fu true 0 (mkT (cnV kv) 3 0 fr).1 := ⟨_, rfl⟩
  obtain ⟨pp16, e_pp16⟩ : ∃ u9 : Nat, u9 = (mkT (cnV kv) 3 0 fr).2 := ⟨_, rfl⟩
  rw [← e_tt15] at y_h12 d5_h12
  rw [← e_pp16] at z_h12 d6_h12
  have sv17 : StV kr kv h12 (kr 1) (kv 1) := sv8.kept (f_h12 _ (by omega) (by omega))
  have by18 : ByA z kv h12 (kv 1) (kT 1) := by9.kept (f_h12 _ (by omega) (by omega))
  refine ax_aret hC (some q_sq14) hr hlocks dL_made__19 ?_
  subst e_tt15
  exact ⟨_, _, rfl, s_h12, y_h12, by omega, by omega, by omega, by omega, by omega, by omega, fun q hq => ((f_h12 q (by omega) (by omega)).trans ((f7 q (by omega)).trans (f3 q (by omega))))⟩
