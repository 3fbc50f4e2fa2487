abbrev rmL_said_30 : Room := { frames := 8, cells := 140, slots := 29000, locals := 205 }
set_option maxRecDepth 100000 in
set_option maxHeartbeats 4000000 in
theorem c_L_said_30 (l : Launch) (D : va_G) (z : Nat → ClassId) (B : Heap) (lo hi : Nat) (h : Nat → Option va_E) (kr kv : Nat → Nat) (aa pos vv fu : Nat) (g0 : Nat → Int32) (hat : h aa = some (.inl (z 1, 1, .inl g0))) (hg : g0 0 = nI pos) (hp : pos ≤ 116) (hv : vv ≤ 16777216) (hf : 1 ≤ fu) : Met l yL_said wsL_said rmL_said_30 (KPs D vwCl B lo hi h kr kv (ty6 z) [.ref (kr 19), .ref aa, .int 3, .int 0, .int (nI vv)]) (KQq D vwCl B lo (ty6 z) (fun r hi' h' => ∃ sa va : Nat, r = some sa ∧ StV kr kv h' sa va ∧ ByA z kv h' va ((sdX (cnV kv) 3 vv pos fu false).1) ∧ (∃ g : Nat → Int32, h' aa = some (.inl (z 1, 1, .inl g)) ∧ g 0 = nI ((sdX (cnV kv) 3 vv pos fu false).2)) ∧ sa ≠ aa ∧ va ≠ aa ∧ sa < hi' ∧ va < hi' ∧ ((sdX (cnV kv) 3 vv pos fu false).1).length ≤ 16 ∧ ((sdX (cnV kv) 3 vv pos fu false).2) ≤ pos + 3 ∧ hi ≤ hi' ∧ (sa < lo ∨ hi ≤ sa) ∧ (va < lo ∨ hi ≤ va) ∧ ∀ q, q < hi → q ≠ aa → h' q = h q)) 140 29000 (fun q => lo ≤ q) := by
  refine ax_metS (by decide) rfl (Nat.le_of_ble_eq_true rfl) (L0 := [(0, .ref (kr 19)), (1, .ref aa), (2, .int 3), (3, .int 0), (4, .int (nI vv))]) rfl ?_
  intro p e s m args below meth c hC hX hr hlocks hnm hargs
  have iJ4 : ∀ w ∈ u_ws RJ4 TJ4 4, w ∈ wsL_said := by decide +kernel
  refine ax_tell hat (fun ta_0 => ?_)
  refine ax_iload hC 4 dL_said_0 rfl ?_
  refine ax_iconst (v := 3) hC dL_said_2 (by decide) ?_
  refine ax_iand hC dL_said_3 ?_
  refine ax_eqi (y := nI (vv % 4)) ((nI_mask _).2.2) ?_
  refine ax_if_ne (tgt := 12) hC dL_said_4 (by decide) (fun c1 => ?_) (fun c1 => ?_)
  · have k4 : ¬ vv % 4 = 0 := fun e => c1 (by rw [e]; rfl)
    refine ax_iload hC 4 dL_said_12 rfl ?_
    refine ax_iconst (v := 3) hC dL_said_14 (by decide) ?_
    refine ax_iand hC dL_said_15 ?_
    refine ax_eqi (y := nI (vv % 4)) ((nI_mask _).2.2) ?_
    refine ax_iconst (v := 3) hC dL_said_16 (by decide) ?_
    refine ax_icmp_lt (tgt := 25) hC dL_said_17 (by decide) (fun c2 => ?_) (fun c2 => ?_)
    · have k5 : vv % 4 < 3 := (nI_ltI (b := 3) (by omega) (by decide)).mp c2
      refine ax_ldcS hC hX 16 (by decide) rfl dL_said_25 ?_
      refine ax_goto (tgt := 64) hC dL_said_27 (by decide) ?_
      refine ax_widen (k := 140) (n := 29000) (by omega) (by omega) ?_
      refine ax_aret hC (some (kr 16)) hr hlocks dL_said_64 ?_
      have sv1 : StV kr kv h (kr 16) (kv 16) := Or.inr ⟨16, by decide, rfl, rfl⟩
      have by2 : ByA z kv h (kv 16) (kT 16) := Or.inr ⟨16, by decide, rfl, rfl⟩
      have lt_16 := hX.lt (i := 16) (by decide)
      have lk_16 : (kT 16).length = 1 := by decide
      have ex3 : sdX (cnV kv) 3 vv pos fu false = (kT 16, pos) := by unfold sdX; rw [if_neg k4, if_pos (by omega)]; rfl
      rw [ex3]
      dsimp only
      exact ⟨_, _, rfl, sv1, by2, ⟨_, hat, hg⟩, by omega, by omega, by omega, by omega, by omega, by omega, by omega, by omega, by omega, fun q hq hq2 => rfl⟩
    · have k5 : ¬ vv % 4 < 3 := fun e => c2 (nI_lt (b := 3) e (by decide))
      refine ax_iload_n hC 2 dL_said_20 rfl rfl ?_
      refine ax_iconst (v := 2) hC dL_said_21 (by decide) ?_
      refine ax_icmp_ge (tgt := 30) hC dL_said_22 (by decide) (fun c4 => ?_) (fun c4 => ?_)
      · refine ax_new (C := RJ4) (T := TJ4) (N := 4) (ci := 1) (fs := [.null, .int 0, .int 0, .int 0]) hC tyJ4 iJ4 tyJ4_ok (by decide +kernel) (by decide +kernel) (by decide +kernel) rfl (fun j hj => by rcases (show j = 0 ∨ j = 1 ∨ j = 2 ∨ j = 3 by omega) with rfl | rfl | rfl | rfl <;> rfl) (Nat.le_of_ble_eq_true rfl) (Nat.le_of_ble_eq_true rfl) dL_said_30 (fun h5 e6 f7 => ?_)
        have e6 : h5 hi = some (.inr (1, [.null, .int 0, .int 0, .int 0])) := e6
        have x8 : h5 aa = some (.inl (z 1, 1, .inl (g0))) := (f7 _ (by omega)).trans hat
        refine ax_dup hC dL_said_33 rfl ?_
        refine ax_sIv (mc := 1) (ms := 16) (st := [.ref hi]) hC hX [] (c_J4_init_da8c8 l D z B lo _ _ kr kv hi e6) (cwI 0 hC.1.2.2.2.2 gL_said_J4_init_da8c8 rfl rfl rfl (hC.1.2.2.2.2 _ (by decide +kernel)) (hC.1.2.2.2.2 _ (by decide +kernel)) (hC.1.2.2.2.2 _ (by decide +kernel)) rfl (by decide +kernel) ⟨Nat.le_of_ble_eq_true rfl, Nat.le_of_ble_eq_true rfl⟩) rfl rfl (Nat.le_of_ble_eq_true rfl) dL_said_34 ⟨Nat.le_of_ble_eq_true rfl, Nat.le_of_ble_eq_true rfl⟩ (fun hi9 h10 hp11 => ?_)
        obtain ⟨i_h10, b_h10, v_h10, f_h10⟩ := hp11
        have j_h10 : hi9 = hi + 1 + 1 := i_h10
        have x12 : h10 aa = some (.inl (z 1, 1, .inl (g0))) := (f_h10 _ (by omega) (by omega)).trans x8
        have s_h10 : SbA z h10 hi (hi + 1) [] := SbA.born b_h10 v_h10
        refine ax_ldcS hC hX 17 (by decide) rfl dL_said_37 ?_
        have sv13 : StV kr kv h10 (kr 17) (kv 17) := Or.inr ⟨17, by decide, rfl, rfl⟩
        have by14 : ByA z kv h10 (kv 17) (kT 17) := Or.inr ⟨17, by decide, rfl, rfl⟩
        have lt_17 := hX.lt (i := 17) (by decide)
        have lk_17 : (kT 17).length = 1 := by decide
        have ln0 : ([] : List Nat).length = 0 := rfl
        refine ax_sVq (mc := 1) (ms := 256) (st := []) hC hX [.ref (kr 17)] (s_h10.rc hC) (c_J4_append_15ec4 l D z B lo _ _ kr kv hi (hi + 1) ([] : List Nat) (kr 17) (kv 17) (kT 17) s_h10 sv13 by14 (by omega) (by omega) (by omega) (by omega) (by omega) (by omega)) (cwV 1 hC.1.2.2.2.2 gL_said_J4_append_15ec4 rfl rfl rfl (by decide +kernel) ⟨Nat.le_of_ble_eq_true rfl, Nat.le_of_ble_eq_true rfl⟩) rfl rfl (Nat.le_of_ble_eq_true rfl) dL_said_39 ⟨Nat.le_of_ble_eq_true rfl, Nat.le_of_ble_eq_true rfl⟩ (fun r15 hi16 h17 hp18 => ?_)
        obtain ⟨rfl, ⟨vw19, s_h17, j_h17, k_h17⟩, i1_h17, i2_h17, f_h17⟩ := hp18
        have m_h17 : hi + 1 ≤ vw19 := by omega
        clear j_h17
        have x21 : h17 aa = some (.inl (z 1, 1, .inl (g0))) := (f_h17 _ (by omega) (by omega) (by omega)).trans x12
        have sv22 : StV kr kv h17 (kr 17) (kv 17) := sv13.kept (f_h17 _ (by omega) (by omega) (by omega))
        have by23 : ByA z kv h17 (kv 17) (kT 17) := by14.kept (f_h17 _ (by omega) (by omega) (by omega))
        obtain ⟨tt20, e_tt20⟩ : ∃ u9 : List Nat, u9 = ([] : List Nat) ++ kT 17 := ⟨_, rfl⟩
        have l_tt20 : tt20.length = ([] : List Nat).length + (kT 17).length := by rw [e_tt20, List.length_append]
        rw [← e_tt20] at s_h17
        refine ax_aload_n hC 0 dL_said_42 rfl rfl ?_
        refine ax_aload_n hC 1 dL_said_43 rfl rfl ?_
        refine ax_iload_n hC 2 dL_said_44 rfl rfl ?_
        refine ax_iconst (v := 2) hC dL_said_45 (by decide) ?_
        refine ax_isub hC dL_said_46 ?_
        refine ax_ldcS hC hX 1 (by decide) rfl dL_said_47 ?_
        refine ax_iload_n hC 3 dL_said_49 rfl rfl ?_
        have sv24 : StV kr kv h17 (kr 1) (kv 1) := Or.inr ⟨1, by decide, rfl, rfl⟩
        have by25 : ByA z kv h17 (kv 1) (kT 1) := Or.inr ⟨1, by decide, rfl, rfl⟩
        have lt_1 := hX.lt (i := 1) (by decide)
        have lk_1 : (kT 1).length = 0 := by decide
        refine ax_sSq (mc := 120) (ms := 26000) (st := [.ref hi]) hC hX [.ref (kr 19), .ref aa, .int (3 - 2), .ref (kr 1), .int 0] (c_L_made_10 l D z B lo _ _ kr kv aa pos 0 fu (kr 1) (kv 1) _ x21 hg (by omega) sv24 (show ByA z kv h17 (kv 1) (lps 0) from by25) (by omega) (by omega) (by omega) (by omega) (by omega) (by omega)) (va_cwS 5 hC.1.2.2.2.2 gL_said_L_made rfl rfl rfl (by decide +kernel) ⟨Nat.le_of_ble_eq_true rfl, Nat.le_of_ble_eq_true rfl⟩) rfl rfl (Nat.le_of_ble_eq_true rfl) dL_said_50 ⟨Nat.le_of_ble_eq_true rfl, Nat.le_of_ble_eq_true rfl⟩ (fun r26 hi27 h28 hp29 => ?_)
        obtain ⟨q_sq30, v_sq30, rfl, s_h28, y_h28, ⟨g_h28, a_h28, z_h28⟩, d1_h28, d2_h28, d3_h28, d4_h28, d5_h28, d6_h28, d7_h28, o1_h28, o2_h28, f_h28⟩ := hp29
        have nb33 : q_sq30 ≠ hi := by omega
        have nb34 : v_sq30 ≠ hi := by omega
        clear o1_h28 o2_h28
        obtain ⟨tt31, e_tt31⟩ : ∃ u9 : List Nat, u9 = txt fu false 0 (mkT (cnV kv) 1 0 pos).1 := ⟨_, rfl⟩
        obtain ⟨pp32, e_pp32⟩ : ∃ u9 : Nat, u9 = (mkT (cnV kv) 1 0 pos).2 := ⟨_, rfl⟩
        rw [← e_tt31] at y_h28 d5_h28
        rw [← e_pp32] at z_h28 d6_h28
        have sv35 : StV kr kv h28 (kr 17) (kv 17) := sv22.kept (f_h28 _ (by omega) (by omega))
        have sv36 : StV kr kv h28 (kr 1) (kv 1) := sv24.kept (f_h28 _ (by omega) (by omega))
        have by37 : ByA z kv h28 (kv 17) (kT 17) := by23.kept (f_h28 _ (by omega) (by omega))
        have by38 : ByA z kv h28 (kv 1) (kT 1) := by25.kept (f_h28 _ (by omega) (by omega))
        have sb39 : SbA z h28 hi vw19 tt20 := s_h17.kept (f_h28 _ (by omega) (by omega)) (f_h28 _ (by omega) (by omega))
        refine ax_sVq (mc := 1) (ms := 256) (st := []) hC hX [.ref q_sq30] (sb39.rc hC) (c_J4_append_15ec4 l D z B lo _ _ kr kv hi vw19 tt20 q_sq30 v_sq30 tt31 sb39 s_h28 y_h28 (by omega) (by omega) (by omega) (by omega) (by omega) (by omega)) (cwV 1 hC.1.2.2.2.2 gL_said_J4_append_15ec4 rfl rfl rfl (by decide +kernel) ⟨Nat.le_of_ble_eq_true rfl, Nat.le_of_ble_eq_true rfl⟩) rfl rfl (Nat.le_of_ble_eq_true rfl) dL_said_53 ⟨Nat.le_of_ble_eq_true rfl, Nat.le_of_ble_eq_true rfl⟩ (fun r40 hi41 h42 hp43 => ?_)
        obtain ⟨rfl, ⟨vw44, s_h42, j_h42, k_h42⟩, i1_h42, i2_h42, f_h42⟩ := hp43
        have m_h42 : hi + 1 ≤ vw44 := by omega
        clear j_h42
        clear d1_h28 d2_h28 d3_h28 d4_h28 nb33 nb34
        have x46 : h42 aa = some (.inl (z 1, 1, .inl (g_h28))) := (f_h42 _ (by omega) (by omega) (by omega)).trans a_h28
        have sv47 : StV kr kv h42 (kr 17) (kv 17) := sv35.kept (f_h42 _ (by omega) (by omega) (by omega))
        have sv48 : StV kr kv h42 (kr 1) (kv 1) := sv36.kept (f_h42 _ (by omega) (by omega) (by omega))
        have by49 : ByA z kv h42 (kv 17) (kT 17) := by37.kept (f_h42 _ (by omega) (by omega) (by omega))
        have by50 : ByA z kv h42 (kv 1) (kT 1) := by38.kept (f_h42 _ (by omega) (by omega) (by omega))
        obtain ⟨tt45, e_tt45⟩ : ∃ u9 : List Nat, u9 = tt20 ++ tt31 := ⟨_, rfl⟩
        have l_tt45 : tt45.length = tt20.length + tt31.length := by rw [e_tt45, List.length_append]
        rw [← e_tt45] at s_h42
        refine ax_ldcS hC hX 18 (by decide) rfl dL_said_56 ?_
        have sv51 : StV kr kv h42 (kr 18) (kv 18) := Or.inr ⟨18, by decide, rfl, rfl⟩
        have by52 : ByA z kv h42 (kv 18) (kT 18) := Or.inr ⟨18, by decide, rfl, rfl⟩
        have lt_18 := hX.lt (i := 18) (by decide)
        have lk_18 : (kT 18).length = 1 := by decide
        refine ax_sVq (mc := 1) (ms := 256) (st := []) hC hX [.ref (kr 18)] (s_h42.rc hC) (c_J4_append_15ec4 l D z B lo _ _ kr kv hi vw44 tt45 (kr 18) (kv 18) (kT 18) s_h42 sv51 by52 (by omega) (by omega) (by omega) (by omega) (by omega) (by omega)) (cwV 1 hC.1.2.2.2.2 gL_said_J4_append_15ec4 rfl rfl rfl (by decide +kernel) ⟨Nat.le_of_ble_eq_true rfl, Nat.le_of_ble_eq_true rfl⟩) rfl rfl (Nat.le_of_ble_eq_true rfl) dL_said_58 ⟨Nat.le_of_ble_eq_true rfl, Nat.le_of_ble_eq_true rfl⟩ (fun r53 hi54 h55 hp56 => ?_)
        obtain ⟨rfl, ⟨vw57, s_h55, j_h55, k_h55⟩, i1_h55, i2_h55, f_h55⟩ := hp56
        have m_h55 : hi + 1 ≤ vw57 := by omega
        clear j_h55
        have x59 : h55 aa = some (.inl (z 1, 1, .inl (g_h28))) := (f_h55 _ (by omega) (by omega) (by omega)).trans x46
        have sv60 : StV kr kv h55 (kr 17) (kv 17) := sv47.kept (f_h55 _ (by omega) (by omega) (by omega))
        have sv61 : StV kr kv h55 (kr 1) (kv 1) := sv48.kept (f_h55 _ (by omega) (by omega) (by omega))
        have sv62 : StV kr kv h55 (kr 18) (kv 18) := sv51.kept (f_h55 _ (by omega) (by omega) (by omega))
        have by63 : ByA z kv h55 (kv 17) (kT 17) := by49.kept (f_h55 _ (by omega) (by omega) (by omega))
        have by64 : ByA z kv h55 (kv 1) (kT 1) := by50.kept (f_h55 _ (by omega) (by omega) (by omega))
        have by65 : ByA z kv h55 (kv 18) (kT 18) := by52.kept (f_h55 _ (by omega) (by omega) (by omega))
        obtain ⟨tt58, e_tt58⟩ : ∃ u9 : List Nat, u9 = tt45 ++ kT 18 := ⟨_, rfl⟩
        have l_tt58 : tt58.length = tt45.length + (kT 18).length := by rw [e_tt58, List.length_append]
        rw [← e_tt58] at s_h55
        refine ax_sVq (mc := 2) (ms := 114) (st := []) hC hX [] (s_h55.rc hC) (c_J4_toString_0e30d l D z B lo _ _ kr kv hi vw57 tt58 s_h55 (by omega)) (cwV 0 hC.1.2.2.2.2 gL_said_J4_toString_0e30d rfl rfl rfl (by decide +kernel) ⟨Nat.le_of_ble_eq_true rfl, Nat.le_of_ble_eq_true rfl⟩) rfl rfl (Nat.le_of_ble_eq_true rfl) dL_said_61 ⟨Nat.le_of_ble_eq_true rfl, Nat.le_of_ble_eq_true rfl⟩ (fun r66 hi67 h68 hp69 => ?_)
        obtain ⟨rfl, s_h68, y_h68, i_h68, f_h68⟩ := hp69
        have x71 : h68 aa = some (.inl (z 1, 1, .inl (g_h28))) := (f_h68 _ (by omega)).trans x59
        have sv72 : StV kr kv h68 (kr 17) (kv 17) := sv60.kept (f_h68 _ (by omega))
        have sv73 : StV kr kv h68 (kr 1) (kv 1) := sv61.kept (f_h68 _ (by omega))
        have sv74 : StV kr kv h68 (kr 18) (kv 18) := sv62.kept (f_h68 _ (by omega))
        have by75 : ByA z kv h68 (kv 17) (kT 17) := by63.kept (f_h68 _ (by omega))
        have by76 : ByA z kv h68 (kv 1) (kT 1) := by64.kept (f_h68 _ (by omega))
        have by77 : ByA z kv h68 (kv 18) (kT 18) := by65.kept (f_h68 _ (by omega))
        refine ax_widen (k := 140) (n := 29000) (by omega) (by omega) ?_
        refine ax_aret hC (some hi54) hr hlocks dL_said_64 ?_
        have ex78 : sdX (cnV kv) 3 vv pos fu false = (tt58, pp32) := by unfold sdX; rw [if_neg k4, if_neg (by omega)]; rw [e_tt58, e_tt45, e_tt31, e_tt20, e_pp32] <;> (first | rfl | (simp only [List.nil_append, List.append_assoc]; rfl))
        rw [ex78]
        dsimp only
        exact ⟨_, _, rfl, s_h68, y_h68, ⟨_, x71, z_h28⟩, by omega, by omega, by omega, by omega, by omega, by omega, by omega, by omega, by omega, fun q hq hq2 => ((f_h68 q (by omega)).trans ((f_h55 q (by omega) (by omega) (by omega)).trans ((f_h42 q (by omega) (by omega) (by omega)).trans ((f_h28 q (by omega) (by omega)).trans ((f_h17 q (by omega) (by omega) (by omega)).trans ((f_h10 q (by omega) (by omega)).trans (f7 q (by omega))))))))⟩
      · exact absurd c4 (by decide)
  · have k4 : vv % 4 = 0 := (nI_eq (b := 0) (by omega) (by decide)).mp c1
    refine ax_ldcS hC hX 15 (by decide) rfl dL_said_7 ?_
    refine ax_goto (tgt := 64) hC dL_said_9 (by decide) ?_
    refine ax_widen (k := 140) (n := 29000) (by omega) (by omega) ?_
    refine ax_aret hC (some (kr 15)) hr hlocks dL_said_64 ?_
    have sv79 : StV kr kv h (kr 15) (kv 15) := Or.inr ⟨15, by decide, rfl, rfl⟩
    have by80 : ByA z kv h (kv 15) (kT 15) := Or.inr ⟨15, by decide, rfl, rfl⟩
    have lt_15 := hX.lt (i := 15) (by decide)
    have lk_15 : (kT 15).length = 1 := by decide
    have ex81 : sdX (cnV kv) 3 vv pos fu false = (kT 15, pos) := by unfold sdX; rw [if_pos k4]; rfl
    rw [ex81]
    dsimp only
    exact ⟨_, _, rfl, sv79, by80, ⟨_, hat, hg⟩, by omega, by omega, by omega, by omega, by omega, by omega, by omega, by omega, by omega, fun q hq hq2 => rfl⟩

abbrev rmL_said_31 : Room := { frames := 8, cells := 140, slots := 29000, locals := 205 }
set_option maxRecDepth 100000 in
set_option maxHeartbeats 4000000 in
theorem c_L_said_31 (l : Launch) (D : va_G) (z : Nat → ClassId) (B : Heap) (lo hi : Nat) (h : Nat → Option va_E) (kr kv : Nat → Nat) (aa pos vv fu : Nat) (g0 : Nat → Int32) (hat : h aa = some (.inl (z 1, 1, .inl g0))) (hg : g0 0 = nI pos) (hp : pos ≤ 116) (hv : vv ≤ 16777216) (hf : 1 ≤ fu) : Met l yL_said wsL_said rmL_said_31 (KPs D vwCl B lo hi h kr kv (ty6 z) [.ref (kr 19), .ref aa, .int 3, .int 1, .int (nI vv)]) (KQq D vwCl B lo (ty6 z) (fun r hi' h' => ∃ sa va : Nat, r = some sa ∧ StV kr kv h' sa va ∧ ByA z kv h' va ((sdX (cnV kv) 3 vv pos fu true).1) ∧ (∃ g : Nat → Int32, h' aa = some (.inl (z 1, 1, .inl g)) ∧ g 0 = nI ((sdX (cnV kv) 3 vv pos fu true).2)) ∧ sa ≠ aa ∧ va ≠ aa ∧ sa < hi' ∧ va < hi' ∧ ((sdX (cnV kv) 3 vv pos fu true).1).length ≤ 16 ∧ ((sdX (cnV kv) 3 vv pos fu true).2) ≤ pos + 3 ∧ hi ≤ hi' ∧ (sa < lo ∨ hi ≤ sa) ∧ (va < lo ∨ hi ≤ va) ∧ ∀ q, q < hi → q ≠ aa → h' q = h q)) 140 29000 (fun q => lo ≤ q) := by
  refine ax_metS (by decide) rfl (Nat.le_of_ble_eq_true rfl) (L0 := [(0, .ref (kr 19)), (1, .ref aa), (2, .int 3), (3, .int 1), (4, .int (nI vv))]) rfl ?_
  intro p e s m args below meth c hC hX hr hlocks hnm hargs
  have iJ4 : ∀ w ∈ u_ws RJ4 TJ4 4, w ∈ wsL_said := by decide +kernel
  refine ax_tell hat (fun ta_0 => ?_)
  refine ax_iload hC 4 dL_said_0 rfl ?_
  refine ax_iconst (v := 3) hC dL_said_2 (by decide) ?_
  refine ax_iand hC dL_said_3 ?_
  refine ax_eqi (y := nI (vv % 4)) ((nI_mask _).2.2) ?_
  refine ax_if_ne (tgt := 12) hC dL_said_4 (by decide) (fun c1 => ?_) (fun c1 => ?_)
  · have k4 : ¬ vv % 4 = 0 := fun e => c1 (by rw [e]; rfl)
    refine ax_iload hC 4 dL_said_12 rfl ?_
    refine ax_iconst (v := 3) hC dL_said_14 (by decide) ?_
    refine ax_iand hC dL_said_15 ?_
    refine ax_eqi (y := nI (vv % 4)) ((nI_mask _).2.2) ?_
    refine ax_iconst (v := 3) hC dL_said_16 (by decide) ?_
    refine ax_icmp_lt (tgt := 25) hC dL_said_17 (by decide) (fun c2 => ?_) (fun c2 => ?_)
    · have k5 : vv % 4 < 3 := (nI_ltI (b := 3) (by omega) (by decide)).mp c2
      refine ax_ldcS hC hX 16 (by decide) rfl dL_said_25 ?_
      refine ax_goto (tgt := 64) hC dL_said_27 (by decide) ?_
      refine ax_widen (k := 140) (n := 29000) (by omega) (by omega) ?_
      refine ax_aret hC (some (kr 16)) hr hlocks dL_said_64 ?_
      have sv1 : StV kr kv h (kr 16) (kv 16) := Or.inr ⟨16, by decide, rfl, rfl⟩
      have by2 : ByA z kv h (kv 16) (kT 16) := Or.inr ⟨16, by decide, rfl, rfl⟩
      have lt_16 := hX.lt (i := 16) (by decide)
      have lk_16 : (kT 16).length = 1 := by decide
      have ex3 : sdX (cnV kv) 3 vv pos fu true = (kT 16, pos) := by unfold sdX; rw [if_neg k4, if_pos (by omega)]; rfl
      rw [ex3]
      dsimp only
      exact ⟨_, _, rfl, sv1, by2, ⟨_, hat, hg⟩, by omega, by omega, by omega, by omega, by omega, by omega, by omega, by omega, by omega, fun q hq hq2 => rfl⟩
    · have k5 : ¬ vv % 4 < 3 := fun e => c2 (nI_lt (b := 3) e (by decide))
      refine ax_iload_n hC 2 dL_said_20 rfl rfl ?_
      refine ax_iconst (v := 2) hC dL_said_21 (by decide) ?_
      refine ax_icmp_ge (tgt := 30) hC dL_said_22 (by decide) (fun c4 => ?_) (fun c4 => ?_)
      · refine ax_new (C := RJ4) (T := TJ4) (N := 4) (ci := 1) (fs := [.null, .int 0, .int 0, .int 0]) hC tyJ4 iJ4 tyJ4_ok (by decide +kernel) (by decide +kernel) (by decide +kernel) rfl (fun j hj => by rcases (show j = 0 ∨ j = 1 ∨ j = 2 ∨ j = 3 by omega) with rfl | rfl | rfl | rfl <;> rfl) (Nat.le_of_ble_eq_true rfl) (Nat.le_of_ble_eq_true rfl) dL_said_30 (fun h5 e6 f7 => ?_)
        have e6 : h5 hi = some (.inr (1, [.null, .int 0, .int 0, .int 0])) := e6
        have x8 : h5 aa = some (.inl (z 1, 1, .inl (g0))) := (f7 _ (by omega)).trans hat
        refine ax_dup hC dL_said_33 rfl ?_
        refine ax_sIv (mc := 1) (ms := 16) (st := [.ref hi]) hC hX [] (c_J4_init_da8c8 l D z B lo _ _ kr kv hi e6) (cwI 0 hC.1.2.2.2.2 gL_said_J4_init_da8c8 rfl rfl rfl (hC.1.2.2.2.2 _ (by decide +kernel)) (hC.1.2.2.2.2 _ (by decide +kernel)) (hC.1.2.2.2.2 _ (by decide +kernel)) rfl (by decide +kernel) ⟨Nat.le_of_ble_eq_true rfl, Nat.le_of_ble_eq_true rfl⟩) rfl rfl (Nat.le_of_ble_eq_true rfl) dL_said_34 ⟨Nat.le_of_ble_eq_true rfl, Nat.le_of_ble_eq_true rfl⟩ (fun hi9 h10 hp11 => ?_)
        obtain ⟨i_h10, b_h10, v_h10, f_h10⟩ := hp11
        have j_h10 : hi9 = hi + 1 + 1 := i_h10
        have x12 : h10 aa = some (.inl (z 1, 1, .inl (g0))) := (f_h10 _ (by omega) (by omega)).trans x8
        have s_h10 : SbA z h10 hi (hi + 1) [] := SbA.born b_h10 v_h10
        refine ax_ldcS hC hX 17 (by decide) rfl dL_said_37 ?_
        have sv13 : StV kr kv h10 (kr 17) (kv 17) := Or.inr ⟨17, by decide, rfl, rfl⟩
        have by14 : ByA z kv h10 (kv 17) (kT 17) := Or.inr ⟨17, by decide, rfl, rfl⟩
        have lt_17 := hX.lt (i := 17) (by decide)
        have lk_17 : (kT 17).length = 1 := by decide
        have ln0 : ([] : List Nat).length = 0 := rfl
        refine ax_sVq (mc := 1) (ms := 256) (st := []) hC hX [.ref (kr 17)] (s_h10.rc hC) (c_J4_append_15ec4 l D z B lo _ _ kr kv hi (hi + 1) ([] : List Nat) (kr 17) (kv 17) (kT 17) s_h10 sv13 by14 (by omega) (by omega) (by omega) (by omega) (by omega) (by omega)) (cwV 1 hC.1.2.2.2.2 gL_said_J4_append_15ec4 rfl rfl rfl (by decide +kernel) ⟨Nat.le_of_ble_eq_true rfl, Nat.le_of_ble_eq_true rfl⟩) rfl rfl (Nat.le_of_ble_eq_true rfl) dL_said_39 ⟨Nat.le_of_ble_eq_true rfl, Nat.le_of_ble_eq_true rfl⟩ (fun r15 hi16 h17 hp18 => ?_)
        obtain ⟨rfl, ⟨vw19, s_h17, j_h17, k_h17⟩, i1_h17, i2_h17, f_h17⟩ := hp18
        have m_h17 : hi + 1 ≤ vw19 := by omega
        clear j_h17
        have x21 : h17 aa = some (.inl (z 1, 1, .inl (g0))) := (f_h17 _ (by omega) (by omega) (by omega)).trans x12
        have sv22 : StV kr kv h17 (kr 17) (kv 17) := sv13.kept (f_h17 _ (by omega) (by omega) (by omega))
        have by23 : ByA z kv h17 (kv 17) (kT 17) := by14.kept (f_h17 _ (by omega) (by omega) (by omega))
        obtain ⟨tt20, e_tt20⟩ : ∃ u9 : List Nat, u9 = ([] : List Nat) ++ kT 17 := ⟨_, rfl⟩
        have l_tt20 : tt20.length = ([] : List Nat).length + (kT 17).length := by rw [e_tt20, List.length_append]
        rw [← e_tt20] at s_h17
        refine ax_aload_n hC 0 dL_said_42 rfl rfl ?_
        refine ax_aload_n hC 1 dL_said_43 rfl rfl ?_
        refine ax_iload_n hC 2 dL_said_44 rfl rfl ?_
        refine ax_iconst (v := 2) hC dL_said_45 (by decide) ?_
        refine ax_isub hC dL_said_46 ?_
        refine ax_ldcS hC hX 1 (by decide) rfl dL_said_47 ?_
        refine ax_iload_n hC 3 dL_said_49 rfl rfl ?_
        have sv24 : StV kr kv h17 (kr 1) (kv 1) := Or.inr ⟨1, by decide, rfl, rfl⟩
        have by25 : ByA z kv h17 (kv 1) (kT 1) := Or.inr ⟨1, by decide, rfl, rfl⟩
        have lt_1 := hX.lt (i := 1) (by decide)
        have lk_1 : (kT 1).length = 0 := by decide
        refine ax_sSq (mc := 120) (ms := 26000) (st := [.ref hi]) hC hX [.ref (kr 19), .ref aa, .int (3 - 2), .ref (kr 1), .int 1] (c_L_made_11 l D z B lo _ _ kr kv aa pos 0 fu (kr 1) (kv 1) _ x21 hg (by omega) sv24 (show ByA z kv h17 (kv 1) (lps 0) from by25) (by omega) (by omega) (by omega) (by omega) (by omega) (by omega)) (va_cwS 5 hC.1.2.2.2.2 gL_said_L_made rfl rfl rfl (by decide +kernel) ⟨Nat.le_of_ble_eq_true rfl, Nat.le_of_ble_eq_true rfl⟩) rfl rfl (Nat.le_of_ble_eq_true rfl) dL_said_50 ⟨Nat.le_of_ble_eq_true rfl, Nat.le_of_ble_eq_true rfl⟩ (fun r26 hi27 h28 hp29 => ?_)
        obtain ⟨q_sq30, v_sq30, rfl, s_h28, y_h28, ⟨g_h28, a_h28, z_h28⟩, d1_h28, d2_h28, d3_h28, d4_h28, d5_h28, d6_h28, d7_h28, o1_h28, o2_h28, f_h28⟩ := hp29
        have nb33 : q_sq30 ≠ hi := by omega
        have nb34 : v_sq30 ≠ hi := by omega
        clear o1_h28 o2_h28
        obtain ⟨tt31, e_tt31⟩ : ∃ u9 : List Nat, u9 = txt fu true 0 (mkT (cnV kv) 1 0 pos).1 := ⟨_, rfl⟩
        obtain ⟨pp32, e_pp32⟩ : ∃ u9 : Nat, u9 = (mkT (cnV kv) 1 0 pos).2 := ⟨_, rfl⟩
        rw [← e_tt31] at y_h28 d5_h28
        rw [← e_pp32] at z_h28 d6_h28
        have sv35 : StV kr kv h28 (kr 17) (kv 17) := sv22.kept (f_h28 _ (by omega) (by omega))
        have sv36 : StV kr kv h28 (kr 1) (kv 1) := sv24.kept (f_h28 _ (by omega) (by omega))
        have by37 : ByA z kv h28 (kv 17) (kT 17) := by23.kept (f_h28 _ (by omega) (by omega))
        have by38 : ByA z kv h28 (kv 1) (kT 1) := by25.kept (f_h28 _ (by omega) (by omega))
        have sb39 : SbA z h28 hi vw19 tt20 := s_h17.kept (f_h28 _ (by omega) (by omega)) (f_h28 _ (by omega) (by omega))
        refine ax_sVq (mc := 1) (ms := 256) (st := []) hC hX [.ref q_sq30] (sb39.rc hC) (c_J4_append_15ec4 l D z B lo _ _ kr kv hi vw19 tt20 q_sq30 v_sq30 tt31 sb39 s_h28 y_h28 (by omega) (by omega) (by omega) (by omega) (by omega) (by omega)) (cwV 1 hC.1.2.2.2.2 gL_said_J4_append_15ec4 rfl rfl rfl (by decide +kernel) ⟨Nat.le_of_ble_eq_true rfl, Nat.le_of_ble_eq_true rfl⟩) rfl rfl (Nat.le_of_ble_eq_true rfl) dL_said_53 ⟨Nat.le_of_ble_eq_true rfl, Nat.le_of_ble_eq_true rfl⟩ (fun r40 hi41 h42 hp43 => ?_)
        obtain ⟨rfl, ⟨vw44, s_h42, j_h42, k_h42⟩, i1_h42, i2_h42, f_h42⟩ := hp43
        have m_h42 : hi + 1 ≤ vw44 := by omega
        clear j_h42
        clear d1_h28 d2_h28 d3_h28 d4_h28 nb33 nb34
        have x46 : h42 aa = some (.inl (z 1, 1, .inl (g_h28))) := (f_h42 _ (by omega) (by omega) (by omega)).trans a_h28
        have sv47 : StV kr kv h42 (kr 17) (kv 17) := sv35.kept (f_h42 _ (by omega) (by omega) (by omega))
        have sv48 : StV kr kv h42 (kr 1) (kv 1) := sv36.kept (f_h42 _ (by omega) (by omega) (by omega))
        have by49 : ByA z kv h42 (kv 17) (kT 17) := by37.kept (f_h42 _ (by omega) (by omega) (by omega))
        have by50 : ByA z kv h42 (kv 1) (kT 1) := by38.kept (f_h42 _ (by omega) (by omega) (by omega))
        obtain ⟨tt45, e_tt45⟩ : ∃ u9 : List Nat, u9 = tt20 ++ tt31 := ⟨_, rfl⟩
        have l_tt45 : tt45.length = tt20.length + tt31.length := by rw [e_tt45, List.length_append]
        rw [← e_tt45] at s_h42
        refine ax_ldcS hC hX 18 (by decide) rfl dL_said_56 ?_
        have sv51 : StV kr kv h42 (kr 18) (kv 18) := Or.inr ⟨18, by decide, rfl, rfl⟩
        have by52 : ByA z kv h42 (kv 18) (kT 18) := Or.inr ⟨18, by decide, rfl, rfl⟩
        have lt_18 := hX.lt (i := 18) (by decide)
        have lk_18 : (kT 18).length = 1 := by decide
        refine ax_sVq (mc := 1) (ms := 256) (st := []) hC hX [.ref (kr 18)] (s_h42.rc hC) (c_J4_append_15ec4 l D z B lo _ _ kr kv hi vw44 tt45 (kr 18) (kv 18) (kT 18) s_h42 sv51 by52 (by omega) (by omega) (by omega) (by omega) (by omega) (by omega)) (cwV 1 hC.1.2.2.2.2 gL_said_J4_append_15ec4 rfl rfl rfl (by decide +kernel) ⟨Nat.le_of_ble_eq_true rfl, Nat.le_of_ble_eq_true rfl⟩) rfl rfl (Nat.le_of_ble_eq_true rfl) dL_said_58 ⟨Nat.le_of_ble_eq_true rfl, Nat.le_of_ble_eq_true rfl⟩ (fun r53 hi54 h55 hp56 => ?_)
        obtain ⟨rfl, ⟨vw57, s_h55, j_h55, k_h55⟩, i1_h55, i2_h55, f_h55⟩ := hp56
        have m_h55 : hi + 1 ≤ vw57 := by omega
        clear j_h55
        have x59 : h55 aa = some (.inl (z 1, 1, .inl (g_h28))) := (f_h55 _ (by omega) (by omega) (by omega)).trans x46
        have sv60 : StV kr kv h55 (kr 17) (kv 17) := sv47.kept (f_h55 _ (by omega) (by omega) (by omega))
        have sv61 : StV kr kv h55 (kr 1) (kv 1) := sv48.kept (f_h55 _ (by omega) (by omega) (by omega))
        have sv62 : StV kr kv h55 (kr 18) (kv 18) := sv51.kept (f_h55 _ (by omega) (by omega) (by omega))
        have by63 : ByA z kv h55 (kv 17) (kT 17) := by49.kept (f_h55 _ (by omega) (by omega) (by omega))
        have by64 : ByA z kv h55 (kv 1) (kT 1) := by50.kept (f_h55 _ (by omega) (by omega) (by omega))
        have by65 : ByA z kv h55 (kv 18) (kT 18) := by52.kept (f_h55 _ (by omega) (by omega) (by omega))
        obtain ⟨tt58, e_tt58⟩ : ∃ u9 : List Nat, u9 = tt45 ++ kT 18 := ⟨_, rfl⟩
        have l_tt58 : tt58.length = tt45.length + (kT 18).length := by rw [e_tt58, List.length_append]
        rw [← e_tt58] at s_h55
        refine ax_sVq (mc := 2) (ms := 114) (st := []) hC hX [] (s_h55.rc hC) (c_J4_toString_0e30d l D z B lo _ _ kr kv hi vw57 tt58 s_h55 (by omega)) (cwV 0 hC.1.2.2.2.2 gL_said_J4_toString_0e30d rfl rfl rfl (by decide +kernel) ⟨Nat.le_of_ble_eq_true rfl, Nat.le_of_ble_eq_true rfl⟩) rfl rfl (Nat.le_of_ble_eq_true rfl) dL_said_61 ⟨Nat.le_of_ble_eq_true rfl, Nat.le_of_ble_eq_true rfl⟩ (fun r66 hi67 h68 hp69 => ?_)
        obtain ⟨rfl, s_h68, y_h68, i_h68, f_h68⟩ := hp69
        have x71 : h68 aa = some (.inl (z 1, 1, .inl (g_h28))) := (f_h68 _ (by omega)).trans x59
        have sv72 : StV kr kv h68 (kr 17) (kv 17) := sv60.kept (f_h68 _ (by omega))
        have sv73 : StV kr kv h68 (kr 1) (kv 1) := sv61.kept (f_h68 _ (by omega))
        have sv74 : StV kr kv h68 (kr 18) (kv 18) := sv62.kept (f_h68 _ (by omega))
        have by75 : ByA z kv h68 (kv 17) (kT 17) := by63.kept (f_h68 _ (by omega))
        have by76 : ByA z kv h68 (kv 1) (kT 1) := by64.kept (f_h68 _ (by omega))
        have by77 : ByA z kv h68 (kv 18) (kT 18) := by65.kept (f_h68 _ (by omega))
        refine ax_widen (k := 140) (n := 29000) (by omega) (by omega) ?_
        refine ax_aret hC (some hi54) hr hlocks dL_said_64 ?_
        have ex78 : sdX (cnV kv) 3 vv pos fu true = (tt58, pp32) := by unfold sdX; rw [if_neg k4, if_neg (by omega)]; rw [e_tt58, e_tt45, e_tt31, e_tt20, e_pp32] <;> (first | rfl | (simp only [List.nil_append, List.append_assoc]; rfl))
        rw [ex78]
        dsimp only
        exact ⟨_, _, rfl, s_h68, y_h68, ⟨_, x71, z_h28⟩, by omega, by omega, by omega, by omega, by omega, by omega, by omega, by omega, by omega, fun q hq hq2 => ((f_h68 q (by omega)).trans ((f_h55 q (by omega) (by omega) (by omega)).trans ((f_h42 q (by omega) (by omega) (by omega)).trans ((f_h28 q (by omega) (by omega)).trans ((f_h17 q (by omega) (by omega) (by omega)).trans ((f_h10 q (by omega) (by omega)).trans (f7 q (by omega))))))))⟩
      · exact absurd c4 (by decide)
  · have k4 : vv % 4 = 0 := (nI_eq (b := 0) (by omega) (by decide)).mp c1
    refine ax_ldcS hC hX 15 (by decide) rfl dL_said_7 ?_
    refine ax_goto (tgt := 64) hC dL_said_9 (by decide) ?_
    refine ax_widen (k := 140) (n := 29000) (by omega) (by omega) ?_
    refine ax_aret hC (some (kr 15)) hr hlocks dL_said_64 ?_
    have sv79 : StV kr kv h (kr 15) (kv 15) := Or.inr ⟨15, by decide, rfl, rfl⟩
    have by80 : ByA z kv h (kv 15) (kT 15) := Or.inr ⟨15, by decide, rfl, rfl⟩
    have lt_15 := hX.lt (i := 15) (by decide)
    have lk_15 : (kT 15).length = 1 := by decide
    have ex81 : sdX (cnV kv) 3 vv pos fu true = (kT 15, pos) := by unfold sdX; rw [if_pos k4]; rfl
    rw [ex81]
    dsimp only
    exact ⟨_, _, rfl, sv79, by80, ⟨_, hat, hg⟩, by omega, by omega, by omega, by omega, by omega, by omega, by omega, by omega, by omega, fun q hq hq2 => rfl⟩
