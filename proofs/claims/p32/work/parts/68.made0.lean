abbrev rmL_made_00 : Room := { frames := 6, cells := 40, slots := 9000, locals := 153 }
set_option maxRecDepth 100000 in
set_option maxHeartbeats 4000000 in
theorem c_L_made_00 (l : Launch) (D : va_G) (z : Nat → ClassId) (B : Heap) (lo hi : Nat) (h : Nat → Option va_E) (kr kv : Nat → Nat) (aa pos k fu ls lv : Nat) (g0 : Nat → Int32) (hat : h aa = some (.inl (z 1, 1, .inl g0))) (hg : g0 0 = nI pos) (hp : pos ≤ 160) (hs : StV kr kv h ls lv) (ht : ByA z kv h lv (lps k)) (hk : k ≤ 3) (ho1 : ls < hi) (ho2 : lv < hi) (ho3 : ls ≠ aa) (ho4 : lv ≠ aa) (hf : 0 ≤ fu) : Met l yL_made wsL_made rmL_made_00 (KPs D vwCl B lo hi h kr kv (ty6 z) [.ref (kr 19), .ref aa, .int 0, .ref ls, .int 0]) (KQq D vwCl B lo (ty6 z) (fun r hi' h' => ∃ sa va : Nat, r = some sa ∧ StV kr kv h' sa va ∧ ByA z kv h' va (txt fu false k (mkT (cnV kv) 0 k pos).1) ∧ (∃ g : Nat → Int32, h' aa = some (.inl (z 1, 1, .inl g)) ∧ g 0 = nI ((mkT (cnV kv) 0 k pos).2)) ∧ sa ≠ aa ∧ va ≠ aa ∧ sa < hi' ∧ va < hi' ∧ (txt fu false k (mkT (cnV kv) 0 k pos).1).length ≤ 1 ∧ ((mkT (cnV kv) 0 k pos).2) ≤ pos + 1 ∧ hi ≤ hi' ∧ (sa < lo ∨ hi ≤ sa) ∧ (va < lo ∨ hi ≤ va) ∧ ∀ q, q < hi → q ≠ aa → h' q = h q)) 40 9000 (fun q => lo ≤ q) := by
  refine ax_metS (by decide) rfl (Nat.le_of_ble_eq_true rfl) (L0 := [(0, .ref (kr 19)), (1, .ref aa), (2, .int 0), (3, .ref ls), (4, .int 0)]) rfl ?_
  intro p e s m args below meth c hC hX hr hlocks hnm hargs
  have iJ4 : ∀ w ∈ u_ws RJ4 TJ4 4, w ∈ wsL_made := by decide +kernel
  have hl3 := lps_len k
  refine ax_tell hat (fun ta_0 => ?_)
  refine ax_aload_n hC 0 dL_made_0 rfl rfl ?_
  refine ax_aload_n hC 1 dL_made_1 rfl rfl ?_
  refine ax_iconst (v := 0) hC dL_made_2 (by decide) ?_
  refine ax_dup2_11 hC dL_made_3 rfl rfl ?_
  refine ax_iald hC hat 1 rfl (vp_in_iff.mpr (by decide)) dL_made_4 ?_
  refine ax_eqi (y := nI pos) hg ?_
  refine ax_dup_x2 hC dL_made_5 rfl rfl rfl ?_
  refine ax_iconst (v := 1) hC dL_made_6 (by decide) ?_
  refine ax_iadd hC dL_made_7 ?_
  refine ax_eqi (y := nI (pos + 1)) (nI_1 _) ?_
  refine ax_iast hC hat 1 rfl (vp_in_iff.mpr (by decide)) dL_made_8 (fun h1 e2 f3 => ?_)
  have g_h1 : upd g0 (0 : Int32).toNatClampNeg (nI (pos + 1)) 0 = nI (pos + 1) := rfl
  have sv4 : StV kr kv h1 ls lv := hs.kept (f3 _ (by omega))
  have by5 : ByA z kv h1 lv (lps k) := ht.kept (f3 _ (by omega))
  have hcv : cnV kv pos < 2 ^ 27 := cnV_lt (by omega)
  refine ax_sSp (mc := 0) (ms := 0) (st := []) hC hX [.ref (kr 19), .int (nI pos)] (c_L_cell l D z B lo _ _ kr kv pos (by omega)) (va_cwS 2 hC.1.2.2.2.2 gL_made_L_cell rfl rfl rfl (by decide +kernel) ⟨Nat.le_of_ble_eq_true rfl, Nat.le_of_ble_eq_true rfl⟩) rfl rfl (Nat.le_of_ble_eq_true rfl) dL_made_9 ⟨Nat.le_of_ble_eq_true rfl, Nat.le_of_ble_eq_true rfl⟩ (fun r6 er7 => ?_)
  subst er7
  refine ax_istore hC [(5, .int (nI (cnV kv pos))), (0, .ref (kr 19)), (1, .ref aa), (2, .int 0), (3, .ref ls), (4, .int 0)] dL_made_12 (by decide) rfl ?_
  refine ax_iload_n hC 3 dL_made_14 rfl rfl ?_
  refine ax_if_ne (tgt := 70) hC dL_made_15 (by decide) (fun c8 => ?_) (fun c8 => ?_)
  · exact absurd c8 (by decide)
  · refine ax_aload_n hC 4 dL_made_18 rfl rfl ?_
    refine ax_sVp (mc := 0) (ms := 0) (st := []) hC hX [] (rc_s hC hX sv4 rfl) (c_J0_length_8abf5 l D z B lo _ _ kr kv ls _ _ sv4 by5 (by omega)) (cwV 0 hC.1.2.2.2.2 gL_made_J0_length_8abf5 rfl rfl rfl (by decide +kernel) ⟨Nat.le_of_ble_eq_true rfl, Nat.le_of_ble_eq_true rfl⟩) rfl rfl (Nat.le_of_ble_eq_true rfl) dL_made_19 ⟨Nat.le_of_ble_eq_true rfl, Nat.le_of_ble_eq_true rfl⟩ (fun r9 er10 => ?_)
    subst er10
    refine ax_eqi (y := nI k) (congrArg nI hl3) ?_
    refine ax_if_le (tgt := 67) hC dL_made_22 (by decide) (fun c11 => ?_) (fun c11 => ?_)
    · have k1 : ¬ 0 < k := fun e => absurd c11 (nI_nle e (by omega))
      refine ax_ldcS hC hX 2 (by decide) rfl dL_made_67 ?_
      refine ax_widen (k := 40) (n := 9000) (by omega) (by omega) ?_
      refine ax_aret hC (some (kr 2)) hr hlocks dL_made_69 ?_
      have sv12 : StV kr kv h1 (kr 2) (kv 2) := Or.inr ⟨2, by decide, rfl, rfl⟩
      have by13 : ByA z kv h1 (kv 2) (kT 2) := Or.inr ⟨2, by decide, rfl, rfl⟩
      have lt_2 := hX.lt (i := 2) (by decide)
      have lk_2 : (kT 2).length = 1 := by decide
      have ex14 := mk_0b (cn := cnV kv) (k := k) (a := pos) (f := fu) (w := false) (by omega)
      have tex14 : txt fu false k (mkT (cnV kv) 0 k pos).1 = kT 2 := by
        refine ex14.2.trans ?_
        rfl
      have pex14 : (mkT (cnV kv) 0 k pos).2 = (pos + 1) := by
        refine ex14.1.trans ?_
        rfl
      rw [tex14, pex14]
      exact ⟨_, _, rfl, sv12, by13, ⟨_, e2, g_h1⟩, by omega, by omega, by omega, by omega, by omega, by omega, by omega, by omega, by omega, fun q hq hq2 => (f3 q (by omega))⟩
    · have k1 : 0 < k := Nat.pos_of_ne_zero (fun e => absurd (show nI k ≤ 0 by rw [e]; decide) c11)
      have km1 := Nat.mod_lt (cnV kv pos / 2) k1
      have km2 := Nat.mod_lt (cnV kv pos / 16) k1
      refine ax_iload hC 0 dL_made_25 rfl ?_
      refine ax_iconst (v := 1) hC dL_made_27 (by decide) ?_
      refine ax_iand hC dL_made_28 ?_
      refine ax_eqi (y := nI (cnV kv pos % 2)) ((nI_mask _).2.1) ?_
      refine ax_iconst (v := 1) hC dL_made_29 (by decide) ?_
      refine ax_icmp_ne (tgt := 67) hC dL_made_30 (by decide) (fun c15 => ?_) (fun c15 => ?_)
      · have k2 : ¬ cnV kv pos % 2 = 1 := fun e => c15 (by rw [e]; rfl)
        refine ax_ldcS hC hX 2 (by decide) rfl dL_made_67 ?_
        refine ax_widen (k := 40) (n := 9000) (by omega) (by omega) ?_
        refine ax_aret hC (some (kr 2)) hr hlocks dL_made_69 ?_
        have sv16 : StV kr kv h1 (kr 2) (kv 2) := Or.inr ⟨2, by decide, rfl, rfl⟩
        have by17 : ByA z kv h1 (kv 2) (kT 2) := Or.inr ⟨2, by decide, rfl, rfl⟩
        have lt_2 := hX.lt (i := 2) (by decide)
        have lk_2 : (kT 2).length = 1 := by decide
        have ex18 := mk_0b (cn := cnV kv) (k := k) (a := pos) (f := fu) (w := false) (by omega)
        have tex18 : txt fu false k (mkT (cnV kv) 0 k pos).1 = kT 2 := by
          refine ex18.2.trans ?_
          rfl
        have pex18 : (mkT (cnV kv) 0 k pos).2 = (pos + 1) := by
          refine ex18.1.trans ?_
          rfl
        rw [tex18, pex18]
        exact ⟨_, _, rfl, sv16, by17, ⟨_, e2, g_h1⟩, by omega, by omega, by omega, by omega, by omega, by omega, by omega, by omega, by omega, fun q hq hq2 => (f3 q (by omega))⟩
      · have k2 : cnV kv pos % 2 = 1 := (nI_eq (b := 1) (by omega) (by decide)).mp c15
        refine ax_new (C := RJ4) (T := TJ4) (N := 4) (ci := 1) (fs := [.null, .int 0, .int 0, .int 0]) hC tyJ4 iJ4 tyJ4_ok (by decide +kernel) (by decide +kernel) (by decide +kernel) rfl (fun j hj => by rcases (show j = 0 ∨ j = 1 ∨ j = 2 ∨ j = 3 by omega) with rfl | rfl | rfl | rfl <;> rfl) (Nat.le_of_ble_eq_true rfl) (Nat.le_of_ble_eq_true rfl) dL_made_33 (fun h19 e20 f21 => ?_)
        have e20 : h19 hi = some (.inr (1, [.null, .int 0, .int 0, .int 0])) := e20
        have x22 : h19 aa = some (.inl (z 1, 1, .inl ((upd g0 (0 : Int32).toNatClampNeg (nI (pos + 1)))))) := (f21 _ (by omega)).trans e2
        have sv23 : StV kr kv h19 ls lv := sv4.kept (f21 _ (by omega))
        have by24 : ByA z kv h19 lv (lps k) := by5.kept (f21 _ (by omega))
        refine ax_dup hC dL_made_36 rfl ?_
        refine ax_sIv (mc := 1) (ms := 16) (st := [.ref hi]) hC hX [] (c_J4_init_da8c8 l D z B lo _ _ kr kv hi e20) (cwI 0 hC.1.2.2.2.2 gL_made_J4_init_da8c8 rfl rfl rfl (hC.1.2.2.2.2 _ (by decide +kernel)) (hC.1.2.2.2.2 _ (by decide +kernel)) (hC.1.2.2.2.2 _ (by decide +kernel)) rfl (by decide +kernel) ⟨Nat.le_of_ble_eq_true rfl, Nat.le_of_ble_eq_true rfl⟩) rfl rfl (Nat.le_of_ble_eq_true rfl) dL_made_37 ⟨Nat.le_of_ble_eq_true rfl, Nat.le_of_ble_eq_true rfl⟩ (fun hi25 h26 hp27 => ?_)
        obtain ⟨i_h26, b_h26, v_h26, f_h26⟩ := hp27
        have j_h26 : hi25 = hi + 1 + 1 := i_h26
        have x28 : h26 aa = some (.inl (z 1, 1, .inl ((upd g0 (0 : Int32).toNatClampNeg (nI (pos + 1)))))) := (f_h26 _ (by omega) (by omega)).trans x22
        have sv29 : StV kr kv h26 ls lv := sv23.kept (f_h26 _ (by omega) (by omega))
        have by30 : ByA z kv h26 lv (lps k) := by24.kept (f_h26 _ (by omega) (by omega))
        have s_h26 : SbA z h26 hi (hi + 1) [] := SbA.born b_h26 v_h26
        refine ax_ldcS hC hX 1 (by decide) rfl dL_made_40 ?_
        have sv31 : StV kr kv h26 (kr 1) (kv 1) := Or.inr ⟨1, by decide, rfl, rfl⟩
        have by32 : ByA z kv h26 (kv 1) (kT 1) := Or.inr ⟨1, by decide, rfl, rfl⟩
        have lt_1 := hX.lt (i := 1) (by decide)
        have lk_1 : (kT 1).length = 0 := by decide
        have ln0 : ([] : List Nat).length = 0 := rfl
        refine ax_sVq (mc := 1) (ms := 256) (st := []) hC hX [.ref (kr 1)] (s_h26.rc hC) (c_J4_append_15ec4 l D z B lo _ _ kr kv hi (hi + 1) ([] : List Nat) (kr 1) (kv 1) (kT 1) s_h26 sv31 by32 (by omega) (by omega) (by omega) (by omega) (by omega) (by omega)) (cwV 1 hC.1.2.2.2.2 gL_made_J4_append_15ec4 rfl rfl rfl (by decide +kernel) ⟨Nat.le_of_ble_eq_true rfl, Nat.le_of_ble_eq_true rfl⟩) rfl rfl (Nat.le_of_ble_eq_true rfl) dL_made_42 ⟨Nat.le_of_ble_eq_true rfl, Nat.le_of_ble_eq_true rfl⟩ (fun r33 hi34 h35 hp36 => ?_)
        obtain ⟨rfl, ⟨vw37, s_h35, j_h35, k_h35⟩, i1_h35, i2_h35, f_h35⟩ := hp36
        have m_h35 : hi + 1 ≤ vw37 := by omega
        clear j_h35
        have x39 : h35 aa = some (.inl (z 1, 1, .inl ((upd g0 (0 : Int32).toNatClampNeg (nI (pos + 1)))))) := (f_h35 _ (by omega) (by omega) (by omega)).trans x28
        have sv40 : StV kr kv h35 ls lv := sv29.kept (f_h35 _ (by omega) (by omega) (by omega))
        have sv41 : StV kr kv h35 (kr 1) (kv 1) := sv31.kept (f_h35 _ (by omega) (by omega) (by omega))
        have by42 : ByA z kv h35 lv (lps k) := by30.kept (f_h35 _ (by omega) (by omega) (by omega))
        have by43 : ByA z kv h35 (kv 1) (kT 1) := by32.kept (f_h35 _ (by omega) (by omega) (by omega))
        obtain ⟨tt38, e_tt38⟩ : ∃ u9 : List Nat, u9 = ([] : List Nat) ++ kT 1 := ⟨_, rfl⟩
        have l_tt38 : tt38.length = ([] : List Nat).length + (kT 1).length := by rw [e_tt38, List.length_append]
        rw [← e_tt38] at s_h35
        refine ax_aload_n hC 4 dL_made_45 rfl rfl ?_
        refine ax_iload hC 0 dL_made_46 rfl ?_
        refine ax_iconst (v := 1) hC dL_made_48 (by decide) ?_
        refine ax_ishr hC dL_made_49 ?_
        refine ax_eqi (y := nI (cnV kv pos / 2)) ((nI_shr (by omega)).2) ?_
        refine ax_aload_n hC 4 dL_made_50 rfl rfl ?_
        refine ax_sVp (mc := 0) (ms := 0) (st := [.int (nI (cnV kv pos / 2)), .ref ls, .ref hi]) hC hX [] (rc_s hC hX sv40 rfl) (c_J0_length_8abf5 l D z B lo _ _ kr kv ls _ _ sv40 by42 (by omega)) (cwV 0 hC.1.2.2.2.2 gL_made_J0_length_8abf5 rfl rfl rfl (by decide +kernel) ⟨Nat.le_of_ble_eq_true rfl, Nat.le_of_ble_eq_true rfl⟩) rfl rfl (Nat.le_of_ble_eq_true rfl) dL_made_51 ⟨Nat.le_of_ble_eq_true rfl, Nat.le_of_ble_eq_true rfl⟩ (fun r44 er45 => ?_)
        subst er45
        refine ax_eqi (y := nI k) (congrArg nI hl3) ?_
        refine ax_irem hC dL_made_54 (fun e => by have e2 := (nI_eq (b := 0) (by omega) (by decide)).mp e; omega) ?_
        refine ax_eqi (y := nI (cnV kv pos / 2 % k)) (nI_rem (by omega) (by omega)) ?_
        refine ax_sVp (mc := 0) (ms := 0) (st := [.ref hi]) hC hX [.int (nI (cnV kv pos / 2 % k))] (rc_s hC hX sv40 rfl) (c_J0_charAt_5068e l D z B lo _ _ kr kv ls _ _ (cnV kv pos / 2 % k) sv40 by42 (by omega) (by omega)) (cwV 1 hC.1.2.2.2.2 gL_made_J0_charAt_5068e rfl rfl rfl (by decide +kernel) ⟨Nat.le_of_ble_eq_true rfl, Nat.le_of_ble_eq_true rfl⟩) rfl rfl (Nat.le_of_ble_eq_true rfl) dL_made_55 ⟨Nat.le_of_ble_eq_true rfl, Nat.le_of_ble_eq_true rfl⟩ (fun r46 er47 => ?_)
        subst er47
        refine ax_eqi (y := nI (119 + cnV kv pos / 2 % k)) (congrArg nI (lps_get (Nat.mod_lt _ k1))) ?_
        have l148 : ([119 + cnV kv pos / 2 % k] : List Nat).length = 1 := rfl
        refine ax_sVq (mc := 1) (ms := 256) (st := []) hC hX [.int (nI (119 + cnV kv pos / 2 % k))] (s_h35.rc hC) (c_J4_append_cf468 l D z B lo _ _ kr kv hi vw37 tt38 (119 + cnV kv pos / 2 % k) s_h35 (by omega) (by omega)) (cwV 1 hC.1.2.2.2.2 gL_made_J4_append_cf468 rfl rfl rfl (by decide +kernel) ⟨Nat.le_of_ble_eq_true rfl, Nat.le_of_ble_eq_true rfl⟩) rfl rfl (Nat.le_of_ble_eq_true rfl) dL_made_58 ⟨Nat.le_of_ble_eq_true rfl, Nat.le_of_ble_eq_true rfl⟩ (fun r49 hi50 h51 hp52 => ?_)
        obtain ⟨rfl, ⟨vw53, s_h51, j_h51, k_h51⟩, i1_h51, i2_h51, f_h51⟩ := hp52
        have m_h51 : hi + 1 ≤ vw53 := by omega
        clear j_h51
        have x55 : h51 aa = some (.inl (z 1, 1, .inl ((upd g0 (0 : Int32).toNatClampNeg (nI (pos + 1)))))) := (f_h51 _ (by omega) (by omega) (by omega)).trans x39
        have sv56 : StV kr kv h51 ls lv := sv40.kept (f_h51 _ (by omega) (by omega) (by omega))
        have sv57 : StV kr kv h51 (kr 1) (kv 1) := sv41.kept (f_h51 _ (by omega) (by omega) (by omega))
        have by58 : ByA z kv h51 lv (lps k) := by42.kept (f_h51 _ (by omega) (by omega) (by omega))
        have by59 : ByA z kv h51 (kv 1) (kT 1) := by43.kept (f_h51 _ (by omega) (by omega) (by omega))
        obtain ⟨tt54, e_tt54⟩ : ∃ u9 : List Nat, u9 = tt38 ++ [119 + cnV kv pos / 2 % k] := ⟨_, rfl⟩
        have l_tt54 : tt54.length = tt38.length + ([119 + cnV kv pos / 2 % k]).length := by rw [e_tt54, List.length_append]
        rw [← e_tt54] at s_h51
        refine ax_sVq (mc := 2) (ms := 114) (st := []) hC hX [] (s_h51.rc hC) (c_J4_toString_0e30d l D z B lo _ _ kr kv hi vw53 tt54 s_h51 (by omega)) (cwV 0 hC.1.2.2.2.2 gL_made_J4_toString_0e30d rfl rfl rfl (by decide +kernel) ⟨Nat.le_of_ble_eq_true rfl, Nat.le_of_ble_eq_true rfl⟩) rfl rfl (Nat.le_of_ble_eq_true rfl) dL_made_61 ⟨Nat.le_of_ble_eq_true rfl, Nat.le_of_ble_eq_true rfl⟩ (fun r60 hi61 h62 hp63 => ?_)
        obtain ⟨rfl, s_h62, y_h62, i_h62, f_h62⟩ := hp63
        have x65 : h62 aa = some (.inl (z 1, 1, .inl ((upd g0 (0 : Int32).toNatClampNeg (nI (pos + 1)))))) := (f_h62 _ (by omega)).trans x55
        have sv66 : StV kr kv h62 ls lv := sv56.kept (f_h62 _ (by omega))
        have sv67 : StV kr kv h62 (kr 1) (kv 1) := sv57.kept (f_h62 _ (by omega))
        have by68 : ByA z kv h62 lv (lps k) := by58.kept (f_h62 _ (by omega))
        have by69 : ByA z kv h62 (kv 1) (kT 1) := by59.kept (f_h62 _ (by omega))
        refine ax_goto (tgt := 69) hC dL_made_64 (by decide) ?_
        refine ax_widen (k := 40) (n := 9000) (by omega) (by omega) ?_
        refine ax_aret hC (some hi50) hr hlocks dL_made_69 ?_
        have ex70 := mk_0a (cn := cnV kv) (k := k) (a := pos) (f := fu) (w := false) k1 k2
        have tex70 : txt fu false k (mkT (cnV kv) 0 k pos).1 = tt54 := by
          refine ex70.2.trans ?_
          subst e_tt54; subst e_tt38
          rfl
        have pex70 : (mkT (cnV kv) 0 k pos).2 = (pos + 1) := by
          refine ex70.1.trans ?_
          rfl
        rw [tex70, pex70]
        exact ⟨_, _, rfl, s_h62, y_h62, ⟨_, x65, g_h1⟩, by omega, by omega, by omega, by omega, by omega, by omega, by omega, by omega, by omega, fun q hq hq2 => ((f_h62 q (by omega)).trans ((f_h51 q (by omega) (by omega) (by omega)).trans ((f_h35 q (by omega) (by omega) (by omega)).trans ((f_h26 q (by omega) (by omega)).trans ((f21 q (by omega)).trans (f3 q (by omega)))))))⟩

abbrev rmL_made_01 : Room := { frames := 6, cells := 40, slots := 9000, locals := 153 }
set_option maxRecDepth 100000 in
set_option maxHeartbeats 4000000 in
theorem c_L_made_01 (l : Launch) (D : va_G) (z : Nat → ClassId) (B : Heap) (lo hi : Nat) (h : Nat → Option va_E) (kr kv : Nat → Nat) (aa pos k fu ls lv : Nat) (g0 : Nat → Int32) (hat : h aa = some (.inl (z 1, 1, .inl g0))) (hg : g0 0 = nI pos) (hp : pos ≤ 160) (hs : StV kr kv h ls lv) (ht : ByA z kv h lv (lps k)) (hk : k ≤ 3) (ho1 : ls < hi) (ho2 : lv < hi) (ho3 : ls ≠ aa) (ho4 : lv ≠ aa) (hf : 0 ≤ fu) : Met l yL_made wsL_made rmL_made_01 (KPs D vwCl B lo hi h kr kv (ty6 z) [.ref (kr 19), .ref aa, .int 0, .ref ls, .int 1]) (KQq D vwCl B lo (ty6 z) (fun r hi' h' => ∃ sa va : Nat, r = some sa ∧ StV kr kv h' sa va ∧ ByA z kv h' va (txt fu true k (mkT (cnV kv) 0 k pos).1) ∧ (∃ g : Nat → Int32, h' aa = some (.inl (z 1, 1, .inl g)) ∧ g 0 = nI ((mkT (cnV kv) 0 k pos).2)) ∧ sa ≠ aa ∧ va ≠ aa ∧ sa < hi' ∧ va < hi' ∧ (txt fu true k (mkT (cnV kv) 0 k pos).1).length ≤ 1 ∧ ((mkT (cnV kv) 0 k pos).2) ≤ pos + 1 ∧ hi ≤ hi' ∧ (sa < lo ∨ hi ≤ sa) ∧ (va < lo ∨ hi ≤ va) ∧ ∀ q, q < hi → q ≠ aa → h' q = h q)) 40 9000 (fun q => lo ≤ q) := by
  refine ax_metS (by decide) rfl (Nat.le_of_ble_eq_true rfl) (L0 := [(0, .ref (kr 19)), (1, .ref aa), (2, .int 0), (3, .ref ls), (4, .int 1)]) rfl ?_
  intro p e s m args below meth c hC hX hr hlocks hnm hargs
  have iJ4 : ∀ w ∈ u_ws RJ4 TJ4 4, w ∈ wsL_made := by decide +kernel
  have hl3 := lps_len k
  refine ax_tell hat (fun ta_0 => ?_)
  refine ax_aload_n hC 0 dL_made_0 rfl rfl ?_
  refine ax_aload_n hC 1 dL_made_1 rfl rfl ?_
  refine ax_iconst (v := 0) hC dL_made_2 (by decide) ?_
  refine ax_dup2_11 hC dL_made_3 rfl rfl ?_
  refine ax_iald hC hat 1 rfl (vp_in_iff.mpr (by decide)) dL_made_4 ?_
  refine ax_eqi (y := nI pos) hg ?_
  refine ax_dup_x2 hC dL_made_5 rfl rfl rfl ?_
  refine ax_iconst (v := 1) hC dL_made_6 (by decide) ?_
  refine ax_iadd hC dL_made_7 ?_
  refine ax_eqi (y := nI (pos + 1)) (nI_1 _) ?_
  refine ax_iast hC hat 1 rfl (vp_in_iff.mpr (by decide)) dL_made_8 (fun h1 e2 f3 => ?_)
  have g_h1 : upd g0 (0 : Int32).toNatClampNeg (nI (pos + 1)) 0 = nI (pos + 1) := rfl
  have sv4 : StV kr kv h1 ls lv := hs.kept (f3 _ (by omega))
  have by5 : ByA z kv h1 lv (lps k) := ht.kept (f3 _ (by omega))
  have hcv : cnV kv pos < 2 ^ 27 := cnV_lt (by omega)
  refine ax_sSp (mc := 0) (ms := 0) (st := []) hC hX [.ref (kr 19), .int (nI pos)] (c_L_cell l D z B lo _ _ kr kv pos (by omega)) (va_cwS 2 hC.1.2.2.2.2 gL_made_L_cell rfl rfl rfl (by decide +kernel) ⟨Nat.le_of_ble_eq_true rfl, Nat.le_of_ble_eq_true rfl⟩) rfl rfl (Nat.le_of_ble_eq_true rfl) dL_made_9 ⟨Nat.le_of_ble_eq_true rfl, Nat.le_of_ble_eq_true rfl⟩ (fun r6 er7 => ?_)
  subst er7
  refine ax_istore hC [(5, .int (nI (cnV kv pos))), (0, .ref (kr 19)), (1, .ref aa), (2, .int 0), (3, .ref ls), (4, .int 1)] dL_made_12 (by decide) rfl ?_
  refine ax_iload_n hC 3 dL_made_14 rfl rfl ?_
  refine ax_if_ne (tgt := 70) hC dL_made_15 (by decide) (fun c8 => ?_) (fun c8 => ?_)
  · exact absurd c8 (by decide)
  · refine ax_aload_n hC 4 dL_made_18 rfl rfl ?_
    refine ax_sVp (mc := 0) (ms := 0) (st := []) hC hX [] (rc_s hC hX sv4 rfl) (c_J0_length_8abf5 l D z B lo _ _ kr kv ls _ _ sv4 by5 (by omega)) (cwV 0 hC.1.2.2.2.2 gL_made_J0_length_8abf5 rfl rfl rfl (by decide +kernel) ⟨Nat.le_of_ble_eq_true rfl, Nat.le_of_ble_eq_true rfl⟩) rfl rfl (Nat.le_of_ble_eq_true rfl) dL_made_19 ⟨Nat.le_of_ble_eq_true rfl, Nat.le_of_ble_eq_true rfl⟩ (fun r9 er10 => ?_)
    subst er10
    refine ax_eqi (y := nI k) (congrArg nI hl3) ?_
    refine ax_if_le (tgt := 67) hC dL_made_22 (by decide) (fun c11 => ?_) (fun c11 => ?_)
    · have k1 : ¬ 0 < k := fun e => absurd c11 (nI_nle e (by omega))
      refine ax_ldcS hC hX 2 (by decide) rfl dL_made_67 ?_
      refine ax_widen (k := 40) (n := 9000) (by omega) (by omega) ?_
      refine ax_aret hC (some (kr 2)) hr hlocks dL_made_69 ?_
      have sv12 : StV kr kv h1 (kr 2) (kv 2) := Or.inr ⟨2, by decide, rfl, rfl⟩
      have by13 : ByA z kv h1 (kv 2) (kT 2) := Or.inr ⟨2, by decide, rfl, rfl⟩
      have lt_2 := hX.lt (i := 2) (by decide)
      have lk_2 : (kT 2).length = 1 := by decide
      have ex14 := mk_0b (cn := cnV kv) (k := k) (a := pos) (f := fu) (w := true) (by omega)
      have tex14 : txt fu true k (mkT (cnV kv) 0 k pos).1 = kT 2 := by
        refine ex14.2.trans ?_
        rfl
      have pex14 : (mkT (cnV kv) 0 k pos).2 = (pos + 1) := by
        refine ex14.1.trans ?_
        rfl
      rw [tex14, pex14]
      exact ⟨_, _, rfl, sv12, by13, ⟨_, e2, g_h1⟩, by omega, by omega, by omega, by omega, by omega, by omega, by omega, by omega, by omega, fun q hq hq2 => (f3 q (by omega))⟩
    · have k1 : 0 < k := Nat.pos_of_ne_zero (fun e => absurd (show nI k ≤ 0 by rw [e]; decide) c11)
      have km1 := Nat.mod_lt (cnV kv pos / 2) k1
      have km2 := Nat.mod_lt (cnV kv pos / 16) k1
      refine ax_iload hC 0 dL_made_25 rfl ?_
      refine ax_iconst (v := 1) hC dL_made_27 (by decide) ?_
      refine ax_iand hC dL_made_28 ?_
      refine ax_eqi (y := nI (cnV kv pos % 2)) ((nI_mask _).2.1) ?_
      refine ax_iconst (v := 1) hC dL_made_29 (by decide) ?_
      refine ax_icmp_ne (tgt := 67) hC dL_made_30 (by decide) (fun c15 => ?_) (fun c15 => ?_)
      · have k2 : ¬ cnV kv pos % 2 = 1 := fun e => c15 (by rw [e]; rfl)
        refine ax_ldcS hC hX 2 (by decide) rfl dL_made_67 ?_
        refine ax_widen (k := 40) (n := 9000) (by omega) (by omega) ?_
        refine ax_aret hC (some (kr 2)) hr hlocks dL_made_69 ?_
        have sv16 : StV kr kv h1 (kr 2) (kv 2) := Or.inr ⟨2, by decide, rfl, rfl⟩
        have by17 : ByA z kv h1 (kv 2) (kT 2) := Or.inr ⟨2, by decide, rfl, rfl⟩
        have lt_2 := hX.lt (i := 2) (by decide)
        have lk_2 : (kT 2).length = 1 := by decide
        have ex18 := mk_0b (cn := cnV kv) (k := k) (a := pos) (f := fu) (w := true) (by omega)
        have tex18 : txt fu true k (mkT (cnV kv) 0 k pos).1 = kT 2 := by
          refine ex18.2.trans ?_
          rfl
        have pex18 : (mkT (cnV kv) 0 k pos).2 = (pos + 1) := by
          refine ex18.1.trans ?_
          rfl
        rw [tex18, pex18]
        exact ⟨_, _, rfl, sv16, by17, ⟨_, e2, g_h1⟩, by omega, by omega, by omega, by omega, by omega, by omega, by omega, by omega, by omega, fun q hq hq2 => (f3 q (by omega))⟩
      · have k2 : cnV kv pos % 2 = 1 := (nI_eq (b := 1) (by omega) (by decide)).mp c15
        refine ax_new (C := RJ4) (T := TJ4) (N := 4) (ci := 1) (fs := [.null, .int 0, .int 0, .int 0]) hC tyJ4 iJ4 tyJ4_ok (by decide +kernel) (by decide +kernel) (by decide +kernel) rfl (fun j hj => by rcases (show j = 0 ∨ j = 1 ∨ j = 2 ∨ j = 3 by omega) with rfl | rfl | rfl | rfl <;> rfl) (Nat.le_of_ble_eq_true rfl) (Nat.le_of_ble_eq_true rfl) dL_made_33 (fun h19 e20 f21 => ?_)
        have e20 : h19 hi = some (.inr (1, [.null, .int 0, .int 0, .int 0])) := e20
        have x22 : h19 aa = some (.inl (z 1, 1, .inl ((upd g0 (0 : Int32).toNatClampNeg (nI (pos + 1)))))) := (f21 _ (by omega)).trans e2
        have sv23 : StV kr kv h19 ls lv := sv4.kept (f21 _ (by omega))
        have by24 : ByA z kv h19 lv (lps k) := by5.kept (f21 _ (by omega))
        refine ax_dup hC dL_made_36 rfl ?_
        refine ax_sIv (mc := 1) (ms := 16) (st := [.ref hi]) hC hX [] (c_J4_init_da8c8 l D z B lo _ _ kr kv hi e20) (cwI 0 hC.1.2.2.2.2 gL_made_J4_init_da8c8 rfl rfl rfl (hC.1.2.2.2.2 _ (by decide +kernel)) (hC.1.2.2.2.2 _ (by decide +kernel)) (hC.1.2.2.2.2 _ (by decide +kernel)) rfl (by decide +kernel) ⟨Nat.le_of_ble_eq_true rfl, Nat.le_of_ble_eq_true rfl⟩) rfl rfl (Nat.le_of_ble_eq_true rfl) dL_made_37 ⟨Nat.le_of_ble_eq_true rfl, Nat.le_of_ble_eq_true rfl⟩ (fun hi25 h26 hp27 => ?_)
        obtain ⟨i_h26, b_h26, v_h26, f_h26⟩ := hp27
        have j_h26 : hi25 = hi + 1 + 1 := i_h26
        have x28 : h26 aa = some (.inl (z 1, 1, .inl ((upd g0 (0 : Int32).toNatClampNeg (nI (pos + 1)))))) := (f_h26 _ (by omega) (by omega)).trans x22
        have sv29 : StV kr kv h26 ls lv := sv23.kept (f_h26 _ (by omega) (by omega))
        have by30 : ByA z kv h26 lv (lps k) := by24.kept (f_h26 _ (by omega) (by omega))
        have s_h26 : SbA z h26 hi (hi + 1) [] := SbA.born b_h26 v_h26
        refine ax_ldcS hC hX 1 (by decide) rfl dL_made_40 ?_
        have sv31 : StV kr kv h26 (kr 1) (kv 1) := Or.inr ⟨1, by decide, rfl, rfl⟩
        have by32 : ByA z kv h26 (kv 1) (kT 1) := Or.inr ⟨1, by decide, rfl, rfl⟩
        have lt_1 := hX.lt (i := 1) (by decide)
        have lk_1 : (kT 1).length = 0 := by decide
        have ln0 : ([] : List Nat).length = 0 := rfl
        refine ax_sVq (mc := 1) (ms := 256) (st := []) hC hX [.ref (kr 1)] (s_h26.rc hC) (c_J4_append_15ec4 l D z B lo _ _ kr kv hi (hi + 1) ([] : List Nat) (kr 1) (kv 1) (kT 1) s_h26 sv31 by32 (by omega) (by omega) (by omega) (by omega) (by omega) (by omega)) (cwV 1 hC.1.2.2.2.2 gL_made_J4_append_15ec4 rfl rfl rfl (by decide +kernel) ⟨Nat.le_of_ble_eq_true rfl, Nat.le_of_ble_eq_true rfl⟩) rfl rfl (Nat.le_of_ble_eq_true rfl) dL_made_42 ⟨Nat.le_of_ble_eq_true rfl, Nat.le_of_ble_eq_true rfl⟩ (fun r33 hi34 h35 hp36 => ?_)
        obtain ⟨rfl, ⟨vw37, s_h35, j_h35, k_h35⟩, i1_h35, i2_h35, f_h35⟩ := hp36
        have m_h35 : hi + 1 ≤ vw37 := by omega
        clear j_h35
        have x39 : h35 aa = some (.inl (z 1, 1, .inl ((upd g0 (0 : Int32).toNatClampNeg (nI (pos + 1)))))) := (f_h35 _ (by omega) (by omega) (by omega)).trans x28
        have sv40 : StV kr kv h35 ls lv := sv29.kept (f_h35 _ (by omega) (by omega) (by omega))
        have sv41 : StV kr kv h35 (kr 1) (kv 1) := sv31.kept (f_h35 _ (by omega) (by omega) (by omega))
        have by42 : ByA z kv h35 lv (lps k) := by30.kept (f_h35 _ (by omega) (by omega) (by omega))
        have by43 : ByA z kv h35 (kv 1) (kT 1) := by32.kept (f_h35 _ (by omega) (by omega) (by omega))
        obtain ⟨tt38, e_tt38⟩ : ∃ u9 : List Nat, u9 = ([] : List Nat) ++ kT 1 := ⟨_, rfl⟩
        have l_tt38 : tt38.length = ([] : List Nat).length + (kT 1).length := by rw [e_tt38, List.length_append]
        rw [← e_tt38] at s_h35
        refine ax_aload_n hC 4 dL_made_45 rfl rfl ?_
        refine ax_iload hC 0 dL_made_46 rfl ?_
        refine ax_iconst (v := 1) hC dL_made_48 (by decide) ?_
        refine ax_ishr hC dL_made_49 ?_
        refine ax_eqi (y := nI (cnV kv pos / 2)) ((nI_shr (by omega)).2) ?_
        refine ax_aload_n hC 4 dL_made_50 rfl rfl ?_
        refine ax_sVp (mc := 0) (ms := 0) (st := [.int (nI (cnV kv pos / 2)), .ref ls, .ref hi]) hC hX [] (rc_s hC hX sv40 rfl) (c_J0_length_8abf5 l D z B lo _ _ kr kv ls _ _ sv40 by42 (by omega)) (cwV 0 hC.1.2.2.2.2 gL_made_J0_length_8abf5 rfl rfl rfl (by decide +kernel) ⟨Nat.le_of_ble_eq_true rfl, Nat.le_of_ble_eq_true rfl⟩) rfl rfl (Nat.le_of_ble_eq_true rfl) dL_made_51 ⟨Nat.le_of_ble_eq_true rfl, Nat.le_of_ble_eq_true rfl⟩ (fun r44 er45 => ?_)
        subst er45
        refine ax_eqi (y := nI k) (congrArg nI hl3) ?_
        refine ax_irem hC dL_made_54 (fun e => by have e2 := (nI_eq (b := 0) (by omega) (by decide)).mp e; omega) ?_
        refine ax_eqi (y := nI (cnV kv pos / 2 % k)) (nI_rem (by omega) (by omega)) ?_
        refine ax_sVp (mc := 0) (ms := 0) (st := [.ref hi]) hC hX [.int (nI (cnV kv pos / 2 % k))] (rc_s hC hX sv40 rfl) (c_J0_charAt_5068e l D z B lo _ _ kr kv ls _ _ (cnV kv pos / 2 % k) sv40 by42 (by omega) (by omega)) (cwV 1 hC.1.2.2.2.2 gL_made_J0_charAt_5068e rfl rfl rfl (by decide +kernel) ⟨Nat.le_of_ble_eq_true rfl, Nat.le_of_ble_eq_true rfl⟩) rfl rfl (Nat.le_of_ble_eq_true rfl) dL_made_55 ⟨Nat.le_of_ble_eq_true rfl, Nat.le_of_ble_eq_true rfl⟩ (fun r46 er47 => ?_)
        subst er47
        refine ax_eqi (y := nI (119 + cnV kv pos / 2 % k)) (congrArg nI (lps_get (Nat.mod_lt _ k1))) ?_
        have l148 : ([119 + cnV kv pos / 2 % k] : List Nat).length = 1 := rfl
        refine ax_sVq (mc := 1) (ms := 256) (st := []) hC hX [.int (nI (119 + cnV kv pos / 2 % k))] (s_h35.rc hC) (c_J4_append_cf468 l D z B lo _ _ kr kv hi vw37 tt38 (119 + cnV kv pos / 2 % k) s_h35 (by omega) (by omega)) (cwV 1 hC.1.2.2.2.2 gL_made_J4_append_cf468 rfl rfl rfl (by decide +kernel) ⟨Nat.le_of_ble_eq_true rfl, Nat.le_of_ble_eq_true rfl⟩) rfl rfl (Nat.le_of_ble_eq_true rfl) dL_made_58 ⟨Nat.le_of_ble_eq_true rfl, Nat.le_of_ble_eq_true rfl⟩ (fun r49 hi50 h51 hp52 => ?_)
        obtain ⟨rfl, ⟨vw53, s_h51, j_h51, k_h51⟩, i1_h51, i2_h51, f_h51⟩ := hp52
        have m_h51 : hi + 1 ≤ vw53 := by omega
        clear j_h51
        have x55 : h51 aa = some (.inl (z 1, 1, .inl ((upd g0 (0 : Int32).toNatClampNeg (nI (pos + 1)))))) := (f_h51 _ (by omega) (by omega) (by omega)).trans x39
        have sv56 : StV kr kv h51 ls lv := sv40.kept (f_h51 _ (by omega) (by omega) (by omega))
        have sv57 : StV kr kv h51 (kr 1) (kv 1) := sv41.kept (f_h51 _ (by omega) (by omega) (by omega))
        have by58 : ByA z kv h51 lv (lps k) := by42.kept (f_h51 _ (by omega) (by omega) (by omega))
        have by59 : ByA z kv h51 (kv 1) (kT 1) := by43.kept (f_h51 _ (by omega) (by omega) (by omega))
        obtain ⟨tt54, e_tt54⟩ : ∃ u9 : List Nat, u9 = tt38 ++ [119 + cnV kv pos / 2 % k] := ⟨_, rfl⟩
        have l_tt54 : tt54.length = tt38.length + ([119 + cnV kv pos / 2 % k]).length := by rw [e_tt54, List.length_append]
        rw [← e_tt54] at s_h51
        refine ax_sVq (mc := 2) (ms := 114) (st := []) hC hX [] (s_h51.rc hC) (c_J4_toString_0e30d l D z B lo _ _ kr kv hi vw53 tt54 s_h51 (by omega)) (cwV 0 hC.1.2.2.2.2 gL_made_J4_toString_0e30d rfl rfl rfl (by decide +kernel) ⟨Nat.le_of_ble_eq_true rfl, Nat.le_of_ble_eq_true rfl⟩) rfl rfl (Nat.le_of_ble_eq_true rfl) dL_made_61 ⟨Nat.le_of_ble_eq_true rfl, Nat.le_of_ble_eq_true rfl⟩ (fun r60 hi61 h62 hp63 => ?_)
        obtain ⟨rfl, s_h62, y_h62, i_h62, f_h62⟩ := hp63
        have x65 : h62 aa = some (.inl (z 1, 1, .inl ((upd g0 (0 : Int32).toNatClampNeg (nI (pos + 1)))))) := (f_h62 _ (by omega)).trans x55
        have sv66 : StV kr kv h62 ls lv := sv56.kept (f_h62 _ (by omega))
        have sv67 : StV kr kv h62 (kr 1) (kv 1) := sv57.kept (f_h62 _ (by omega))
        have by68 : ByA z kv h62 lv (lps k) := by58.kept (f_h62 _ (by omega))
        have by69 : ByA z kv h62 (kv 1) (kT 1) := by59.kept (f_h62 _ (by omega))
        refine ax_goto (tgt := 69) hC dL_made_64 (by decide) ?_
        refine ax_widen (k := 40) (n := 9000) (by omega) (by omega) ?_
        refine ax_aret hC (some hi50) hr hlocks dL_made_69 ?_
        have ex70 := mk_0a (cn := cnV kv) (k := k) (a := pos) (f := fu) (w := true) k1 k2
        have tex70 : txt fu true k (mkT (cnV kv) 0 k pos).1 = tt54 := by
          refine ex70.2.trans ?_
          subst e_tt54; subst e_tt38
          rfl
        have pex70 : (mkT (cnV kv) 0 k pos).2 = (pos + 1) := by
          refine ex70.1.trans ?_
          rfl
        rw [tex70, pex70]
        exact ⟨_, _, rfl, s_h62, y_h62, ⟨_, x65, g_h1⟩, by omega, by omega, by omega, by omega, by omega, by omega, by omega, by omega, by omega, fun q hq hq2 => ((f_h62 q (by omega)).trans ((f_h51 q (by omega) (by omega) (by omega)).trans ((f_h35 q (by omega) (by omega) (by omega)).trans ((f_h26 q (by omega) (by omega)).trans ((f21 q (by omega)).trans (f3 q (by omega)))))))⟩
