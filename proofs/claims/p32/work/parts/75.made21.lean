abbrev rmL_made_21 : Room := { frames := 8, cells := 300, slots := 64000, locals := 205 }
set_option maxRecDepth 100000 in
set_option maxHeartbeats 4000000 in
theorem c_L_made_21 (l : Launch) (D : va_G) (z : Nat → ClassId) (B : Heap) (lo hi : Nat) (h : Nat → Option va_E) (kr kv : Nat → Nat) (aa pos k fu ls lv : Nat) (g0 : Nat → Int32) (hat : h aa = some (.inl (z 1, 1, .inl g0))) (hg : g0 0 = nI pos) (hp : pos ≤ 130) (hs : StV kr kv h ls lv) (ht : ByA z kv h lv (lps k)) (hk : k ≤ 1) (ho1 : ls < hi) (ho2 : lv < hi) (ho3 : ls ≠ aa) (ho4 : lv ≠ aa) (hf : 2 ≤ fu) : Met l yL_made wsL_made rmL_made_21 (KPs D vwCl B lo hi h kr kv (ty6 z) [.ref (kr 19), .ref aa, .int 2, .ref ls, .int 1]) (KQq D vwCl B lo (ty6 z) (fun r hi' h' => ∃ sa va : Nat, r = some sa ∧ StV kr kv h' sa va ∧ ByA z kv h' va (txt fu true k (mkT (cnV kv) 2 k pos).1) ∧ (∃ g : Nat → Int32, h' aa = some (.inl (z 1, 1, .inl g)) ∧ g 0 = nI ((mkT (cnV kv) 2 k pos).2)) ∧ sa ≠ aa ∧ va ≠ aa ∧ sa < hi' ∧ va < hi' ∧ (txt fu true k (mkT (cnV kv) 2 k pos).1).length ≤ 40 ∧ ((mkT (cnV kv) 2 k pos).2) ≤ pos + 7 ∧ hi ≤ hi' ∧ (sa < lo ∨ hi ≤ sa) ∧ (va < lo ∨ hi ≤ va) ∧ ∀ q, q < hi → q ≠ aa → h' q = h q)) 300 64000 (fun q => lo ≤ q) := by
  refine ax_metS (by decide) rfl (Nat.le_of_ble_eq_true rfl) (L0 := [(0, .ref (kr 19)), (1, .ref aa), (2, .int 2), (3, .ref ls), (4, .int 1)]) rfl ?_
  intro p e s m args below meth c hC hX hr hlocks hnm hargs
  have iJ4 : ∀ w ∈ u_ws RJ4 TJ4 4, w ∈ wsL_made := by decide +kernel
  have hl3 := lps_len k
  obtain ⟨fn, rfl⟩ : ∃ f9, fu = f9 + 1 := ⟨fu - 1, by omega⟩
  refine ax_tell hat (fun ta_0 => ?_)
  refine ax_aload_n hC 0 dL_made_0 rfl rfl ?_
  refine ax_aload_n hC 1 dL_made_1 rfl rfl ?_
  refine ax_iconst (v := 0) hC dL_made_2 (by decide) ?_
  refine ax_dup2_11 hC dL_made_3 rfl rfl ?_
  refine ax_iald hC hat 1 rfl (vp_in_iff.mpr (by decide)) dL_made_4 ?_
  refine ax_eqi (y := nI pos) hg ?_
  refine ax_dup_x2 hC dL_made_5 rfl rfl rfl ?_
  refine ax_iconst (v := 1) hC dL_made_6 (by decide) ?_
  refine ax_iadd hC dL_made_7 ?_
  refine ax_eqi (y := nI (pos + 1)) (nI_1 _) ?_
  refine ax_iast hC hat 1 rfl (vp_in_iff.mpr (by decide)) dL_made_8 (fun h1 e2 f3 => ?_)
  have g_h1 : upd g0 (0 : Int32).toNatClampNeg (nI (pos + 1)) 0 = nI (pos + 1) := rfl
  have sv4 : StV kr kv h1 ls lv := hs.kept (f3 _ (by omega))
  have by5 : ByA z kv h1 lv (lps k) := ht.kept (f3 _ (by omega))
  have hcv : cnV kv pos < 2 ^ 27 := cnV_lt (by omega)
  refine ax_sSp (mc := 0) (ms := 0) (st := []) hC hX [.ref (kr 19), .int (nI pos)] (c_L_cell l D z B lo _ _ kr kv pos (by omega)) (va_cwS 2 hC.1.2.2.2.2 gL_made_L_cell rfl rfl rfl (by decide +kernel) ⟨Nat.le_of_ble_eq_true rfl, Nat.le_of_ble_eq_true rfl⟩) rfl rfl (Nat.le_of_ble_eq_true rfl) dL_made_9 ⟨Nat.le_of_ble_eq_true rfl, Nat.le_of_ble_eq_true rfl⟩ (fun r6 er7 => ?_)
  subst er7
  refine ax_istore hC [(5, .int (nI (cnV kv pos))), (0, .ref (kr 19)), (1, .ref aa), (2, .int 2), (3, .ref ls), (4, .int 1)] dL_made_12 (by decide) rfl ?_
  refine ax_iload_n hC 3 dL_made_14 rfl rfl ?_
  refine ax_if_ne (tgt := 70) hC dL_made_15 (by decide) (fun c8 => ?_) (fun c8 => ?_)
  · refine ax_iload hC 0 dL_made_70 rfl ?_
    refine ax_bipush (v := 9) hC dL_made_72 (by decide) ?_
    refine ax_irem hC dL_made_74 (by decide) ?_
    refine ax_eqi (y := nI (cnV kv pos % 9)) (nI_rem (d := 9) (by omega) (by omega)) ?_
    by_cases s9 : (nI (cnV kv pos % 9)) = 0
    · refine ax_tableIn (tgt := 120) (off := 45) hC dL_made_75 (by rw [s9]; decide) (by rw [s9]; decide) (by rw [s9]; decide) (by decide) ?_
      have k9 : cnV kv pos % 9 = 0 := by have u_s9 : cnV kv pos % 9 = 0 := (nI_eq (b := 0) (by omega) (by decide)).mp s9; omega
      refine ax_ldcS hC hX 2 (by decide) rfl dL_made_120 ?_
      refine ax_widen (k := 300) (n := 64000) (by omega) (by omega) ?_
      refine ax_aret hC (some (kr 2)) hr hlocks dL_made_122 ?_
      have sv10 : StV kr kv h1 (kr 2) (kv 2) := Or.inr ⟨2, by decide, rfl, rfl⟩
      have by11 : ByA z kv h1 (kv 2) (kT 2) := Or.inr ⟨2, by decide, rfl, rfl⟩
      have lt_2 := hX.lt (i := 2) (by decide)
      have lk_2 : (kT 2).length = 1 := by decide
      have ex12 := mk_end (cn := cnV kv) (n := 1) (k := k) (a := pos) (f := fn) (w := true) k9
      have tex12 : txt (fn + 1) true k (mkT (cnV kv) 2 k pos).1 = kT 2 := by
        refine ex12.2.trans ?_
        rfl
      have pex12 : (mkT (cnV kv) 2 k pos).2 = (pos + 1) := by
        refine ex12.1.trans ?_
        rfl
      rw [tex12, pex12]
      exact ⟨_, _, rfl, sv10, by11, ⟨_, e2, g_h1⟩, by omega, by omega, by omega, by omega, by omega, by omega, by omega, by omega, by omega, fun q hq hq2 => (f3 q (by omega))⟩
    by_cases s13 : (nI (cnV kv pos % 9)) = 1
    · refine ax_tableIn (tgt := 123) (off := 48) hC dL_made_75 (by rw [s13]; decide) (by rw [s13]; decide) (by rw [s13]; decide) (by decide) ?_
      have k9 : cnV kv pos % 9 = 1 ∨ cnV kv pos % 9 = 2 := by have u_s9 : ¬ cnV kv pos % 9 = 0 := fun e => s9 (by rw [e]; rfl); have u_s13 : cnV kv pos % 9 = 1 := (nI_eq (b := 1) (by omega) (by decide)).mp s13; omega
      refine ax_new (C := RJ4) (T := TJ4) (N := 4) (ci := 1) (fs := [.null, .int 0, .int 0, .int 0]) hC tyJ4 iJ4 tyJ4_ok (by decide +kernel) (by decide +kernel) (by decide +kernel) rfl (fun j hj => by rcases (show j = 0 ∨ j = 1 ∨ j = 2 ∨ j = 3 by omega) with rfl | rfl | rfl | rfl <;> rfl) (Nat.le_of_ble_eq_true rfl) (Nat.le_of_ble_eq_true rfl) dL_made_123 (fun h14 e15 f16 => ?_)
      have e15 : h14 hi = some (.inr (1, [.null, .int 0, .int 0, .int 0])) := e15
      have x17 : h14 aa = some (.inl (z 1, 1, .inl ((upd g0 (0 : Int32).toNatClampNeg (nI (pos + 1)))))) := (f16 _ (by omega)).trans e2
      have sv18 : StV kr kv h14 ls lv := sv4.kept (f16 _ (by omega))
      have by19 : ByA z kv h14 lv (lps k) := by5.kept (f16 _ (by omega))
      refine ax_dup hC dL_made_126 rfl ?_
      refine ax_sIv (mc := 1) (ms := 16) (st := [.ref hi]) hC hX [] (c_J4_init_da8c8 l D z B lo _ _ kr kv hi e15) (cwI 0 hC.1.2.2.2.2 gL_made_J4_init_da8c8 rfl rfl rfl (hC.1.2.2.2.2 _ (by decide +kernel)) (hC.1.2.2.2.2 _ (by decide +kernel)) (hC.1.2.2.2.2 _ (by decide +kernel)) rfl (by decide +kernel) ⟨Nat.le_of_ble_eq_true rfl, Nat.le_of_ble_eq_true rfl⟩) rfl rfl (Nat.le_of_ble_eq_true rfl) dL_made_127 ⟨Nat.le_of_ble_eq_true rfl, Nat.le_of_ble_eq_true rfl⟩ (fun hi20 h21 hp22 => ?_)
      obtain ⟨i_h21, b_h21, v_h21, f_h21⟩ := hp22
      have j_h21 : hi20 = hi + 1 + 1 := i_h21
      have x23 : h21 aa = some (.inl (z 1, 1, .inl ((upd g0 (0 : Int32).toNatClampNeg (nI (pos + 1)))))) := (f_h21 _ (by omega) (by omega)).trans x17
      have sv24 : StV kr kv h21 ls lv := sv18.kept (f_h21 _ (by omega) (by omega))
      have by25 : ByA z kv h21 lv (lps k) := by19.kept (f_h21 _ (by omega) (by omega))
      have s_h21 : SbA z h21 hi (hi + 1) [] := SbA.born b_h21 v_h21
      refine ax_ldcS hC hX 3 (by decide) rfl dL_made_130 ?_
      have sv26 : StV kr kv h21 (kr 3) (kv 3) := Or.inr ⟨3, by decide, rfl, rfl⟩
      have by27 : ByA z kv h21 (kv 3) (kT 3) := Or.inr ⟨3, by decide, rfl, rfl⟩
      have lt_3 := hX.lt (i := 3) (by decide)
      have lk_3 : (kT 3).length = 1 := by decide
      have ln0 : ([] : List Nat).length = 0 := rfl
      refine ax_sVq (mc := 1) (ms := 256) (st := []) hC hX [.ref (kr 3)] (s_h21.rc hC) (c_J4_append_15ec4 l D z B lo _ _ kr kv hi (hi + 1) ([] : List Nat) (kr 3) (kv 3) (kT 3) s_h21 sv26 by27 (by omega) (by omega) (by omega) (by omega) (by omega) (by omega)) (cwV 1 hC.1.2.2.2.2 gL_made_J4_append_15ec4 rfl rfl rfl (by decide +kernel) ⟨Nat.le_of_ble_eq_true rfl, Nat.le_of_ble_eq_true rfl⟩) rfl rfl (Nat.le_of_ble_eq_true rfl) dL_made_132 ⟨Nat.le_of_ble_eq_true rfl, Nat.le_of_ble_eq_true rfl⟩ (fun r28 hi29 h30 hp31 => ?_)
      obtain ⟨rfl, ⟨vw32, s_h30, j_h30, k_h30⟩, i1_h30, i2_h30, f_h30⟩ := hp31
      have m_h30 : hi + 1 ≤ vw32 := by omega
      clear j_h30
      have x34 : h30 aa = some (.inl (z 1, 1, .inl ((upd g0 (0 : Int32).toNatClampNeg (nI (pos + 1)))))) := (f_h30 _ (by omega) (by omega) (by omega)).trans x23
      have sv35 : StV kr kv h30 ls lv := sv24.kept (f_h30 _ (by omega) (by omega) (by omega))
      have sv36 : StV kr kv h30 (kr 3) (kv 3) := sv26.kept (f_h30 _ (by omega) (by omega) (by omega))
      have by37 : ByA z kv h30 lv (lps k) := by25.kept (f_h30 _ (by omega) (by omega) (by omega))
      have by38 : ByA z kv h30 (kv 3) (kT 3) := by27.kept (f_h30 _ (by omega) (by omega) (by omega))
      obtain ⟨tt33, e_tt33⟩ : ∃ u9 : List Nat, u9 = ([] : List Nat) ++ kT 3 := ⟨_, rfl⟩
      have l_tt33 : tt33.length = ([] : List Nat).length + (kT 3).length := by rw [e_tt33, List.length_append]
      rw [← e_tt33] at s_h30
      refine ax_aload_n hC 1 dL_made_135 rfl rfl ?_
      refine ax_aload_n hC 2 dL_made_136 rfl rfl ?_
      refine ax_iload_n hC 3 dL_made_137 rfl rfl ?_
      refine ax_iload hC 5 dL_made_138 rfl ?_
      refine ax_if_ne (tgt := 147) hC dL_made_140 (by decide) (fun c39 => ?_) (fun c39 => ?_)
      · refine ax_iconst (v := 0) hC dL_made_147 (by decide) ?_
        refine ax_iload hC 0 dL_made_148 rfl ?_
        refine ax_iconst (v := 4) hC dL_made_150 (by decide) ?_
        refine ax_ishr hC dL_made_151 ?_
        refine ax_eqi (y := nI (cnV kv pos / 16)) ((nI_shr (by omega)).1) ?_
        refine ax_sSq (mc := 60) (ms := 12000) (st := [.ref hi]) hC hX [.ref (kr 19), .ref aa, .int 2, .int 0, .int (nI (cnV kv pos / 16))] (c_L_said_20 l D z B lo _ _ kr kv aa (pos + 1) (cnV kv pos / 16) fn _ x34 g_h1 (by omega) (by omega) (by omega)) (va_cwS 5 hC.1.2.2.2.2 gL_made_L_said rfl rfl rfl (by decide +kernel) ⟨Nat.le_of_ble_eq_true rfl, Nat.le_of_ble_eq_true rfl⟩) rfl rfl (Nat.le_of_ble_eq_true rfl) dL_made_152 ⟨Nat.le_of_ble_eq_true rfl, Nat.le_of_ble_eq_true rfl⟩ (fun r40 hi41 h42 hp43 => ?_)
        obtain ⟨q_sq44, v_sq44, rfl, s_h42, y_h42, ⟨g_h42, a_h42, z_h42⟩, d1_h42, d2_h42, d3_h42, d4_h42, d5_h42, d6_h42, d7_h42, o1_h42, o2_h42, f_h42⟩ := hp43
        have nb47 : q_sq44 ≠ hi := by omega
        have nb48 : v_sq44 ≠ hi := by omega
        clear o1_h42 o2_h42
        obtain ⟨tt45, e_tt45⟩ : ∃ u9 : List Nat, u9 = (sdX (cnV kv) 2 (cnV kv pos / 16) (pos + 1) fn false).1 := ⟨_, rfl⟩
        obtain ⟨pp46, e_pp46⟩ : ∃ u9 : Nat, u9 = (sdX (cnV kv) 2 (cnV kv pos / 16) (pos + 1) fn false).2 := ⟨_, rfl⟩
        rw [← e_tt45] at y_h42 d5_h42
        rw [← e_pp46] at z_h42 d6_h42
        have sv49 : StV kr kv h42 ls lv := sv35.kept (f_h42 _ (by omega) (by omega))
        have sv50 : StV kr kv h42 (kr 3) (kv 3) := sv36.kept (f_h42 _ (by omega) (by omega))
        have by51 : ByA z kv h42 lv (lps k) := by37.kept (f_h42 _ (by omega) (by omega))
        have by52 : ByA z kv h42 (kv 3) (kT 3) := by38.kept (f_h42 _ (by omega) (by omega))
        have sb53 : SbA z h42 hi vw32 tt33 := s_h30.kept (f_h42 _ (by omega) (by omega)) (f_h42 _ (by omega) (by omega))
        refine ax_sVq (mc := 1) (ms := 256) (st := []) hC hX [.ref q_sq44] (sb53.rc hC) (c_J4_append_15ec4 l D z B lo _ _ kr kv hi vw32 tt33 q_sq44 v_sq44 tt45 sb53 s_h42 y_h42 (by omega) (by omega) (by omega) (by omega) (by omega) (by omega)) (cwV 1 hC.1.2.2.2.2 gL_made_J4_append_15ec4 rfl rfl rfl (by decide +kernel) ⟨Nat.le_of_ble_eq_true rfl, Nat.le_of_ble_eq_true rfl⟩) rfl rfl (Nat.le_of_ble_eq_true rfl) dL_made_155 ⟨Nat.le_of_ble_eq_true rfl, Nat.le_of_ble_eq_true rfl⟩ (fun r54 hi55 h56 hp57 => ?_)
        obtain ⟨rfl, ⟨vw58, s_h56, j_h56, k_h56⟩, i1_h56, i2_h56, f_h56⟩ := hp57
        have m_h56 : hi + 1 ≤ vw58 := by omega
        clear j_h56
        clear d1_h42 d2_h42 d3_h42 d4_h42 nb47 nb48
        have x60 : h56 aa = some (.inl (z 1, 1, .inl (g_h42))) := (f_h56 _ (by omega) (by omega) (by omega)).trans a_h42
        have sv61 : StV kr kv h56 ls lv := sv49.kept (f_h56 _ (by omega) (by omega) (by omega))
        have sv62 : StV kr kv h56 (kr 3) (kv 3) := sv50.kept (f_h56 _ (by omega) (by omega) (by omega))
        have by63 : ByA z kv h56 lv (lps k) := by51.kept (f_h56 _ (by omega) (by omega) (by omega))
        have by64 : ByA z kv h56 (kv 3) (kT 3) := by52.kept (f_h56 _ (by omega) (by omega) (by omega))
        obtain ⟨tt59, e_tt59⟩ : ∃ u9 : List Nat, u9 = tt33 ++ tt45 := ⟨_, rfl⟩
        have l_tt59 : tt59.length = tt33.length + tt45.length := by rw [e_tt59, List.length_append]
        rw [← e_tt59] at s_h56
        refine ax_ldcS hC hX 4 (by decide) rfl dL_made_158 ?_
        have sv65 : StV kr kv h56 (kr 4) (kv 4) := Or.inr ⟨4, by decide, rfl, rfl⟩
        have by66 : ByA z kv h56 (kv 4) (kT 4) := Or.inr ⟨4, by decide, rfl, rfl⟩
        have lt_4 := hX.lt (i := 4) (by decide)
        have lk_4 : (kT 4).length = 1 := by decide
        refine ax_sVq (mc := 1) (ms := 256) (st := []) hC hX [.ref (kr 4)] (s_h56.rc hC) (c_J4_append_15ec4 l D z B lo _ _ kr kv hi vw58 tt59 (kr 4) (kv 4) (kT 4) s_h56 sv65 by66 (by omega) (by omega) (by omega) (by omega) (by omega) (by omega)) (cwV 1 hC.1.2.2.2.2 gL_made_J4_append_15ec4 rfl rfl rfl (by decide +kernel) ⟨Nat.le_of_ble_eq_true rfl, Nat.le_of_ble_eq_true rfl⟩) rfl rfl (Nat.le_of_ble_eq_true rfl) dL_made_160 ⟨Nat.le_of_ble_eq_true rfl, Nat.le_of_ble_eq_true rfl⟩ (fun r67 hi68 h69 hp70 => ?_)
        obtain ⟨rfl, ⟨vw71, s_h69, j_h69, k_h69⟩, i1_h69, i2_h69, f_h69⟩ := hp70
        have m_h69 : hi + 1 ≤ vw71 := by omega
        clear j_h69
        have x73 : h69 aa = some (.inl (z 1, 1, .inl (g_h42))) := (f_h69 _ (by omega) (by omega) (by omega)).trans x60
        have sv74 : StV kr kv h69 ls lv := sv61.kept (f_h69 _ (by omega) (by omega) (by omega))
        have sv75 : StV kr kv h69 (kr 3) (kv 3) := sv62.kept (f_h69 _ (by omega) (by omega) (by omega))
        have sv76 : StV kr kv h69 (kr 4) (kv 4) := sv65.kept (f_h69 _ (by omega) (by omega) (by omega))
        have by77 : ByA z kv h69 lv (lps k) := by63.kept (f_h69 _ (by omega) (by omega) (by omega))
        have by78 : ByA z kv h69 (kv 3) (kT 3) := by64.kept (f_h69 _ (by omega) (by omega) (by omega))
        have by79 : ByA z kv h69 (kv 4) (kT 4) := by66.kept (f_h69 _ (by omega) (by omega) (by omega))
        obtain ⟨tt72, e_tt72⟩ : ∃ u9 : List Nat, u9 = tt59 ++ kT 4 := ⟨_, rfl⟩
        have l_tt72 : tt72.length = tt59.length + (kT 4).length := by rw [e_tt72, List.length_append]
        rw [← e_tt72] at s_h69
        refine ax_aload_n hC 1 dL_made_163 rfl rfl ?_
        refine ax_aload_n hC 2 dL_made_164 rfl rfl ?_
        refine ax_iload_n hC 3 dL_made_165 rfl rfl ?_
        refine ax_iconst (v := 1) hC dL_made_166 (by decide) ?_
        refine ax_isub hC dL_made_167 ?_
        refine ax_eqi (y := 1) (by decide) ?_
        refine ax_aload_n hC 4 dL_made_168 rfl rfl ?_
        refine ax_iload hC 5 dL_made_169 rfl ?_
        refine ax_sSq (mc := 120) (ms := 26000) (st := [.ref hi]) hC hX [.ref (kr 19), .ref aa, .int 1, .ref ls, .int 1] (c_L_made_11 l D z B lo _ _ kr kv aa pp46 k fn ls lv _ x73 z_h42 (by omega) sv74 by77 (by omega) (by omega) (by omega) (by omega) (by omega) (by omega)) (va_cwS 5 hC.1.2.2.2.2 gL_made_L_made rfl rfl rfl (by decide +kernel) ⟨Nat.le_of_ble_eq_true rfl, Nat.le_of_ble_eq_true rfl⟩) rfl rfl (Nat.le_of_ble_eq_true rfl) dL_made_171 ⟨Nat.le_of_ble_eq_true rfl, Nat.le_of_ble_eq_true rfl⟩ (fun r80 hi81 h82 hp83 => ?_)
        obtain ⟨q_sq84, v_sq84, rfl, s_h82, y_h82, ⟨g_h82, a_h82, z_h82⟩, d1_h82, d2_h82, d3_h82, d4_h82, d5_h82, d6_h82, d7_h82, o1_h82, o2_h82, f_h82⟩ := hp83
        have nb87 : q_sq84 ≠ hi := by omega
        have nb88 : v_sq84 ≠ hi := by omega
        clear o1_h82 o2_h82
        obtain ⟨tt85, e_tt85⟩ : ∃ u9 : List Nat, u9 = txt fn true k (mkT (cnV kv) 1 k pp46).1 := ⟨_, rfl⟩
        obtain ⟨pp86, e_pp86⟩ : ∃ u9 : Nat, u9 = (mkT (cnV kv) 1 k pp46).2 := ⟨_, rfl⟩
        rw [← e_tt85] at y_h82 d5_h82
        rw [← e_pp86] at z_h82 d6_h82
        have sv89 : StV kr kv h82 ls lv := sv74.kept (f_h82 _ (by omega) (by omega))
        have sv90 : StV kr kv h82 (kr 3) (kv 3) := sv75.kept (f_h82 _ (by omega) (by omega))
        have sv91 : StV kr kv h82 (kr 4) (kv 4) := sv76.kept (f_h82 _ (by omega) (by omega))
        have by92 : ByA z kv h82 lv (lps k) := by77.kept (f_h82 _ (by omega) (by omega))
        have by93 : ByA z kv h82 (kv 3) (kT 3) := by78.kept (f_h82 _ (by omega) (by omega))
        have by94 : ByA z kv h82 (kv 4) (kT 4) := by79.kept (f_h82 _ (by omega) (by omega))
        have sb95 : SbA z h82 hi vw71 tt72 := s_h69.kept (f_h82 _ (by omega) (by omega)) (f_h82 _ (by omega) (by omega))
        refine ax_sVq (mc := 1) (ms := 256) (st := []) hC hX [.ref q_sq84] (sb95.rc hC) (c_J4_append_15ec4 l D z B lo _ _ kr kv hi vw71 tt72 q_sq84 v_sq84 tt85 sb95 s_h82 y_h82 (by omega) (by omega) (by omega) (by omega) (by omega) (by omega)) (cwV 1 hC.1.2.2.2.2 gL_made_J4_append_15ec4 rfl rfl rfl (by decide +kernel) ⟨Nat.le_of_ble_eq_true rfl, Nat.le_of_ble_eq_true rfl⟩) rfl rfl (Nat.le_of_ble_eq_true rfl) dL_made_174 ⟨Nat.le_of_ble_eq_true rfl, Nat.le_of_ble_eq_true rfl⟩ (fun r96 hi97 h98 hp99 => ?_)
        obtain ⟨rfl, ⟨vw100, s_h98, j_h98, k_h98⟩, i1_h98, i2_h98, f_h98⟩ := hp99
        have m_h98 : hi + 1 ≤ vw100 := by omega
        clear j_h98
        clear d1_h82 d2_h82 d3_h82 d4_h82 nb87 nb88
        have x102 : h98 aa = some (.inl (z 1, 1, .inl (g_h82))) := (f_h98 _ (by omega) (by omega) (by omega)).trans a_h82
        have sv103 : StV kr kv h98 ls lv := sv89.kept (f_h98 _ (by omega) (by omega) (by omega))
        have sv104 : StV kr kv h98 (kr 3) (kv 3) := sv90.kept (f_h98 _ (by omega) (by omega) (by omega))
        have sv105 : StV kr kv h98 (kr 4) (kv 4) := sv91.kept (f_h98 _ (by omega) (by omega) (by omega))
        have by106 : ByA z kv h98 lv (lps k) := by92.kept (f_h98 _ (by omega) (by omega) (by omega))
        have by107 : ByA z kv h98 (kv 3) (kT 3) := by93.kept (f_h98 _ (by omega) (by omega) (by omega))
        have by108 : ByA z kv h98 (kv 4) (kT 4) := by94.kept (f_h98 _ (by omega) (by omega) (by omega))
        obtain ⟨tt101, e_tt101⟩ : ∃ u9 : List Nat, u9 = tt72 ++ tt85 := ⟨_, rfl⟩
        have l_tt101 : tt101.length = tt72.length + tt85.length := by rw [e_tt101, List.length_append]
        rw [← e_tt101] at s_h98
        refine ax_sVq (mc := 2) (ms := 114) (st := []) hC hX [] (s_h98.rc hC) (c_J4_toString_0e30d l D z B lo _ _ kr kv hi vw100 tt101 s_h98 (by omega)) (cwV 0 hC.1.2.2.2.2 gL_made_J4_toString_0e30d rfl rfl rfl (by decide +kernel) ⟨Nat.le_of_ble_eq_true rfl, Nat.le_of_ble_eq_true rfl⟩) rfl rfl (Nat.le_of_ble_eq_true rfl) dL_made_177 ⟨Nat.le_of_ble_eq_true rfl, Nat.le_of_ble_eq_true rfl⟩ (fun r109 hi110 h111 hp112 => ?_)
        obtain ⟨rfl, s_h111, y_h111, i_h111, f_h111⟩ := hp112
        have x114 : h111 aa = some (.inl (z 1, 1, .inl (g_h82))) := (f_h111 _ (by omega)).trans x102
        have sv115 : StV kr kv h111 ls lv := sv103.kept (f_h111 _ (by omega))
        have sv116 : StV kr kv h111 (kr 3) (kv 3) := sv104.kept (f_h111 _ (by omega))
        have sv117 : StV kr kv h111 (kr 4) (kv 4) := sv105.kept (f_h111 _ (by omega))
        have by118 : ByA z kv h111 lv (lps k) := by106.kept (f_h111 _ (by omega))
        have by119 : ByA z kv h111 (kv 3) (kT 3) := by107.kept (f_h111 _ (by omega))
        have by120 : ByA z kv h111 (kv 4) (kT 4) := by108.kept (f_h111 _ (by omega))
        refine ax_widen (k := 300) (n := 64000) (by omega) (by omega) ?_
        refine ax_aret hC (some hi97) hr hlocks dL_made_180 ?_
        have ex121 := mk_send (cn := cnV kv) (n := 1) (k := k) (a := pos) (f := fn) (w := true) k9
        have tex121 : txt (fn + 1) true k (mkT (cnV kv) 2 k pos).1 = tt101 := by
          refine ex121.2.trans ?_
          subst e_tt101; subst e_tt85; subst e_tt72; subst e_tt59; subst e_tt45; subst e_tt33
          subst e_pp86; subst e_pp46
          first | rfl | (simp only [List.nil_append, List.append_assoc]; rfl)
        have pex121 : (mkT (cnV kv) 2 k pos).2 = pp86 := by
          refine ex121.1.trans ?_
          subst e_pp86; subst e_pp46
          rfl
        rw [tex121, pex121]
        exact ⟨_, _, rfl, s_h111, y_h111, ⟨_, x114, z_h82⟩, by omega, by omega, by omega, by omega, by omega, by omega, by omega, by omega, by omega, fun q hq hq2 => ((f_h111 q (by omega)).trans ((f_h98 q (by omega) (by omega) (by omega)).trans ((f_h82 q (by omega) (by omega)).trans ((f_h69 q (by omega) (by omega) (by omega)).trans ((f_h56 q (by omega) (by omega) (by omega)).trans ((f_h42 q (by omega) (by omega)).trans ((f_h30 q (by omega) (by omega) (by omega)).trans ((f_h21 q (by omega) (by omega)).trans ((f16 q (by omega)).trans (f3 q (by omega)))))))))))⟩
      · exact absurd c39 (by decide)
    by_cases s122 : (nI (cnV kv pos % 9)) = 2
    · refine ax_tableIn (tgt := 123) (off := 48) hC dL_made_75 (by rw [s122]; decide) (by rw [s122]; decide) (by rw [s122]; decide) (by decide) ?_
      have k9 : cnV kv pos % 9 = 1 ∨ cnV kv pos % 9 = 2 := by have u_s9 : ¬ cnV kv pos % 9 = 0 := fun e => s9 (by rw [e]; rfl); have u_s13 : ¬ cnV kv pos % 9 = 1 := fun e => s13 (by rw [e]; rfl); have u_s122 : cnV kv pos % 9 = 2 := (nI_eq (b := 2) (by omega) (by decide)).mp s122; omega
      refine ax_new (C := RJ4) (T := TJ4) (N := 4) (ci := 1) (fs := [.null, .int 0, .int 0, .int 0]) hC tyJ4 iJ4 tyJ4_ok (by decide +kernel) (by decide +kernel) (by decide +kernel) rfl (fun j hj => by rcases (show j = 0 ∨ j = 1 ∨ j = 2 ∨ j = 3 by omega) with rfl | rfl | rfl | rfl <;> rfl) (Nat.le_of_ble_eq_true rfl) (Nat.le_of_ble_eq_true rfl) dL_made_123 (fun h123 e124 f125 => ?_)
      have e124 : h123 hi = some (.inr (1, [.null, .int 0, .int 0, .int 0])) := e124
      have x126 : h123 aa = some (.inl (z 1, 1, .inl ((upd g0 (0 : Int32).toNatClampNeg (nI (pos + 1)))))) := (f125 _ (by omega)).trans e2
      have sv127 : StV kr kv h123 ls lv := sv4.kept (f125 _ (by omega))
      have by128 : ByA z kv h123 lv (lps k) := by5.kept (f125 _ (by omega))
      refine ax_dup hC dL_made_126 rfl ?_
      refine ax_sIv (mc := 1) (ms := 16) (st := [.ref hi]) hC hX [] (c_J4_init_da8c8 l D z B lo _ _ kr kv hi e124) (cwI 0 hC.1.2.2.2.2 gL_made_J4_init_da8c8 rfl rfl rfl (hC.1.2.2.2.2 _ (by decide +kernel)) (hC.1.2.2.2.2 _ (by decide +kernel)) (hC.1.2.2.2.2 _ (by decide +kernel)) rfl (by decide +kernel) ⟨Nat.le_of_ble_eq_true rfl, Nat.le_of_ble_eq_true rfl⟩) rfl rfl (Nat.le_of_ble_eq_true rfl) dL_made_127 ⟨Nat.le_of_ble_eq_true rfl, Nat.le_of_ble_eq_true rfl⟩ (fun hi129 h130 hp131 => ?_)
      obtain ⟨i_h130, b_h130, v_h130, f_h130⟩ := hp131
      have j_h130 : hi129 = hi + 1 + 1 := i_h130
      have x132 : h130 aa = some (.inl (z 1, 1, .inl ((upd g0 (0 : Int32).toNatClampNeg (nI (pos + 1)))))) := (f_h130 _ (by omega) (by omega)).trans x126
      have sv133 : StV kr kv h130 ls lv := sv127.kept (f_h130 _ (by omega) (by omega))
      have by134 : ByA z kv h130 lv (lps k) := by128.kept (f_h130 _ (by omega) (by omega))
      have s_h130 : SbA z h130 hi (hi + 1) [] := SbA.born b_h130 v_h130
      refine ax_ldcS hC hX 3 (by decide) rfl dL_made_130 ?_
      have sv135 : StV kr kv h130 (kr 3) (kv 3) := Or.inr ⟨3, by decide, rfl, rfl⟩
      have by136 : ByA z kv h130 (kv 3) (kT 3) := Or.inr ⟨3, by decide, rfl, rfl⟩
      have lt_3 := hX.lt (i := 3) (by decide)
      have lk_3 : (kT 3).length = 1 := by decide
      have ln0 : ([] : List Nat).length = 0 := rfl
      refine ax_sVq (mc := 1) (ms := 256) (st := []) hC hX [.ref (kr 3)] (s_h130.rc hC) (c_J4_append_15ec4 l D z B lo _ _ kr kv hi (hi + 1) ([] : List Nat) (kr 3) (kv 3) (kT 3) s_h130 sv135 by136 (by omega) (by omega) (by omega) (by omega) (by omega) (by omega)) (cwV 1 hC.1.2.2.2.2 gL_made_J4_append_15ec4 rfl rfl rfl (by decide +kernel) ⟨Nat.le_of_ble_eq_true rfl, Nat.le_of_ble_eq_true rfl⟩) rfl rfl (Nat.le_of_ble_eq_true rfl) dL_made_132 ⟨Nat.le_of_ble_eq_true rfl, Nat.le_of_ble_eq_true rfl⟩ (fun r137 hi138 h139 hp140 => ?_)
      obtain ⟨rfl, ⟨vw141, s_h139, j_h139, k_h139⟩, i1_h139, i2_h139, f_h139⟩ := hp140
      have m_h139 : hi + 1 ≤ vw141 := by omega
      clear j_h139
      have x143 : h139 aa = some (.inl (z 1, 1, .inl ((upd g0 (0 : Int32).toNatClampNeg (nI (pos + 1)))))) := (f_h139 _ (by omega) (by omega) (by omega)).trans x132
      have sv144 : StV kr kv h139 ls lv := sv133.kept (f_h139 _ (by omega) (by omega) (by omega))
      have sv145 : StV kr kv h139 (kr 3) (kv 3) := sv135.kept (f_h139 _ (by omega) (by omega) (by omega))
      have by146 : ByA z kv h139 lv (lps k) := by134.kept (f_h139 _ (by omega) (by omega) (by omega))
      have by147 : ByA z kv h139 (kv 3) (kT 3) := by136.kept (f_h139 _ (by omega) (by omega) (by omega))
      obtain ⟨tt142, e_tt142⟩ : ∃ u9 : List Nat, u9 = ([] : List Nat) ++ kT 3 := ⟨_, rfl⟩
      have l_tt142 : tt142.length = ([] : List Nat).length + (kT 3).length := by rw [e_tt142, List.length_append]
      rw [← e_tt142] at s_h139
      refine ax_aload_n hC 1 dL_made_135 rfl rfl ?_
      refine ax_aload_n hC 2 dL_made_136 rfl rfl ?_
      refine ax_iload_n hC 3 dL_made_137 rfl rfl ?_
      refine ax_iload hC 5 dL_made_138 rfl ?_
      refine ax_if_ne (tgt := 147) hC dL_made_140 (by decide) (fun c148 => ?_) (fun c148 => ?_)
      · refine ax_iconst (v := 0) hC dL_made_147 (by decide) ?_
        refine ax_iload hC 0 dL_made_148 rfl ?_
        refine ax_iconst (v := 4) hC dL_made_150 (by decide) ?_
        refine ax_ishr hC dL_made_151 ?_
        refine ax_eqi (y := nI (cnV kv pos / 16)) ((nI_shr (by omega)).1) ?_
        refine ax_sSq (mc := 60) (ms := 12000) (st := [.ref hi]) hC hX [.ref (kr 19), .ref aa, .int 2, .int 0, .int (nI (cnV kv pos / 16))] (c_L_said_20 l D z B lo _ _ kr kv aa (pos + 1) (cnV kv pos / 16) fn _ x143 g_h1 (by omega) (by omega) (by omega)) (va_cwS 5 hC.1.2.2.2.2 gL_made_L_said rfl rfl rfl (by decide +kernel) ⟨Nat.le_of_ble_eq_true rfl, Nat.le_of_ble_eq_true rfl⟩) rfl rfl (Nat.le_of_ble_eq_true rfl) dL_made_152 ⟨Nat.le_of_ble_eq_true rfl, Nat.le_of_ble_eq_true rfl⟩ (fun r149 hi150 h151 hp152 => ?_)
        obtain ⟨q_sq153, v_sq153, rfl, s_h151, y_h151, ⟨g_h151, a_h151, z_h151⟩, d1_h151, d2_h151, d3_h151, d4_h151, d5_h151, d6_h151, d7_h151, o1_h151, o2_h151, f_h151⟩ := hp152
        have nb156 : q_sq153 ≠ hi := by omega
        have nb157 : v_sq153 ≠ hi := by omega
        clear o1_h151 o2_h151
        obtain ⟨tt154, e_tt154⟩ : ∃ u9 : List Nat, u9 = (sdX (cnV kv) 2 (cnV kv pos / 16) (pos + 1) fn false).1 := ⟨_, rfl⟩
        obtain ⟨pp155, e_pp155⟩ : ∃ u9 : Nat, u9 = (sdX (cnV kv) 2 (cnV kv pos / 16) (pos + 1) fn false).2 := ⟨_, rfl⟩
        rw [← e_tt154] at y_h151 d5_h151
        rw [← e_pp155] at z_h151 d6_h151
        have sv158 : StV kr kv h151 ls lv := sv144.kept (f_h151 _ (by omega) (by omega))
        have sv159 : StV kr kv h151 (kr 3) (kv 3) := sv145.kept (f_h151 _ (by omega) (by omega))
        have by160 : ByA z kv h151 lv (lps k) := by146.kept (f_h151 _ (by omega) (by omega))
        have by161 : ByA z kv h151 (kv 3) (kT 3) := by147.kept (f_h151 _ (by omega) (by omega))
        have sb162 : SbA z h151 hi vw141 tt142 := s_h139.kept (f_h151 _ (by omega) (by omega)) (f_h151 _ (by omega) (by omega))
        refine ax_sVq (mc := 1) (ms := 256) (st := []) hC hX [.ref q_sq153] (sb162.rc hC) (c_J4_append_15ec4 l D z B lo _ _ kr kv hi vw141 tt142 q_sq153 v_sq153 tt154 sb162 s_h151 y_h151 (by omega) (by omega) (by omega) (by omega) (by omega) (by omega)) (cwV 1 hC.1.2.2.2.2 gL_made_J4_append_15ec4 rfl rfl rfl (by decide +kernel) ⟨Nat.le_of_ble_eq_true rfl, Nat.le_of_ble_eq_true rfl⟩) rfl rfl (Nat.le_of_ble_eq_true rfl) dL_made_155 ⟨Nat.le_of_ble_eq_true rfl, Nat.le_of_ble_eq_true rfl⟩ (fun r163 hi164 h165 hp166 => ?_)
        obtain ⟨rfl, ⟨vw167, s_h165, j_h165, k_h165⟩, i1_h165, i2_h165, f_h165⟩ := hp166
        have m_h165 : hi + 1 ≤ vw167 := by omega
        clear j_h165
        clear d1_h151 d2_h151 d3_h151 d4_h151 nb156 nb157
        have x169 : h165 aa = some (.inl (z 1, 1, .inl (g_h151))) := (f_h165 _ (by omega) (by omega) (by omega)).trans a_h151
        have sv170 : StV kr kv h165 ls lv := sv158.kept (f_h165 _ (by omega) (by omega) (by omega))
        have sv171 : StV kr kv h165 (kr 3) (kv 3) := sv159.kept (f_h165 _ (by omega) (by omega) (by omega))
        have by172 : ByA z kv h165 lv (lps k) := by160.kept (f_h165 _ (by omega) (by omega) (by omega))
        have by173 : ByA z kv h165 (kv 3) (kT 3) := by161.kept (f_h165 _ (by omega) (by omega) (by omega))
        obtain ⟨tt168, e_tt168⟩ : ∃ u9 : List Nat, u9 = tt142 ++ tt154 := ⟨_, rfl⟩
        have l_tt168 : tt168.length = tt142.length + tt154.length := by rw [e_tt168, List.length_append]
        rw [← e_tt168] at s_h165
        refine ax_ldcS hC hX 4 (by decide) rfl dL_made_158 ?_
        have sv174 : StV kr kv h165 (kr 4) (kv 4) := Or.inr ⟨4, by decide, rfl, rfl⟩
        have by175 : ByA z kv h165 (kv 4) (kT 4) := Or.inr ⟨4, by decide, rfl, rfl⟩
        have lt_4 := hX.lt (i := 4) (by decide)
        have lk_4 : (kT 4).length = 1 := by decide
        refine ax_sVq (mc := 1) (ms := 256) (st := []) hC hX [.ref (kr 4)] (s_h165.rc hC) (c_J4_append_15ec4 l D z B lo _ _ kr kv hi vw167 tt168 (kr 4) (kv 4) (kT 4) s_h165 sv174 by175 (by omega) (by omega) (by omega) (by omega) (by omega) (by omega)) (cwV 1 hC.1.2.2.2.2 gL_made_J4_append_15ec4 rfl rfl rfl (by decide +kernel) ⟨Nat.le_of_ble_eq_true rfl, Nat.le_of_ble_eq_true rfl⟩) rfl rfl (Nat.le_of_ble_eq_true rfl) dL_made_160 ⟨Nat.le_of_ble_eq_true rfl, Nat.le_of_ble_eq_true rfl⟩ (fun r176 hi177 h178 hp179 => ?_)
        obtain ⟨rfl, ⟨vw180, s_h178, j_h178, k_h178⟩, i1_h178, i2_h178, f_h178⟩ := hp179
        have m_h178 : hi + 1 ≤ vw180 := by omega
        clear j_h178
        have x182 : h178 aa = some (.inl (z 1, 1, .inl (g_h151))) := (f_h178 _ (by omega) (by omega) (by omega)).trans x169
        have sv183 : StV kr kv h178 ls lv := sv170.kept (f_h178 _ (by omega) (by omega) (by omega))
        have sv184 : StV kr kv h178 (kr 3) (kv 3) := sv171.kept (f_h178 _ (by omega) (by omega) (by omega))
        have sv185 : StV kr kv h178 (kr 4) (kv 4) := sv174.kept (f_h178 _ (by omega) (by omega) (by omega))
        have by186 : ByA z kv h178 lv (lps k) := by172.kept (f_h178 _ (by omega) (by omega) (by omega))
        have by187 : ByA z kv h178 (kv 3) (kT 3) := by173.kept (f_h178 _ (by omega) (by omega) (by omega))
        have by188 : ByA z kv h178 (kv 4) (kT 4) := by175.kept (f_h178 _ (by omega) (by omega) (by omega))
        obtain ⟨tt181, e_tt181⟩ : ∃ u9 : List Nat, u9 = tt168 ++ kT 4 := ⟨_, rfl⟩
        have l_tt181 : tt181.length = tt168.length + (kT 4).length := by rw [e_tt181, List.length_append]
        rw [← e_tt181] at s_h178
        refine ax_aload_n hC 1 dL_made_163 rfl rfl ?_
        refine ax_aload_n hC 2 dL_made_164 rfl rfl ?_
        refine ax_iload_n hC 3 dL_made_165 rfl rfl ?_
        refine ax_iconst (v := 1) hC dL_made_166 (by decide) ?_
        refine ax_isub hC dL_made_167 ?_
        refine ax_eqi (y := 1) (by decide) ?_
        refine ax_aload_n hC 4 dL_made_168 rfl rfl ?_
        refine ax_iload hC 5 dL_made_169 rfl ?_
        refine ax_sSq (mc := 120) (ms := 26000) (st := [.ref hi]) hC hX [.ref (kr 19), .ref aa, .int 1, .ref ls, .int 1] (c_L_made_11 l D z B lo _ _ kr kv aa pp155 k fn ls lv _ x182 z_h151 (by omega) sv183 by186 (by omega) (by omega) (by omega) (by omega) (by omega) (by omega)) (va_cwS 5 hC.1.2.2.2.2 gL_made_L_made rfl rfl rfl (by decide +kernel) ⟨Nat.le_of_ble_eq_true rfl, Nat.le_of_ble_eq_true rfl⟩) rfl rfl (Nat.le_of_ble_eq_true rfl) dL_made_171 ⟨Nat.le_of_ble_eq_true rfl, Nat.le_of_ble_eq_true rfl⟩ (fun r189 hi190 h191 hp192 => ?_)
        obtain ⟨q_sq193, v_sq193, rfl, s_h191, y_h191, ⟨g_h191, a_h191, z_h191⟩, d1_h191, d2_h191, d3_h191, d4_h191, d5_h191, d6_h191, d7_h191, o1_h191, o2_h191, f_h191⟩ := hp192
        have nb196 : q_sq193 ≠ hi := by omega
        have nb197 : v_sq193 ≠ hi := by omega
        clear o1_h191 o2_h191
        obtain ⟨tt194, e_tt194⟩ : ∃ u9 : List Nat, u9 = txt fn true k (mkT (cnV kv) 1 k pp155).1 := ⟨_, rfl⟩
        obtain ⟨pp195, e_pp195⟩ : ∃ u9 : Nat, u9 = (mkT (cnV kv) 1 k pp155).2 := ⟨_, rfl⟩
        rw [← e_tt194] at y_h191 d5_h191
        rw [← e_pp195] at z_h191 d6_h191
        have sv198 : StV kr kv h191 ls lv := sv183.kept (f_h191 _ (by omega) (by omega))
        have sv199 : StV kr kv h191 (kr 3) (kv 3) := sv184.kept (f_h191 _ (by omega) (by omega))
        have sv200 : StV kr kv h191 (kr 4) (kv 4) := sv185.kept (f_h191 _ (by omega) (by omega))
        have by201 : ByA z kv h191 lv (lps k) := by186.kept (f_h191 _ (by omega) (by omega))
        have by202 : ByA z kv h191 (kv 3) (kT 3) := by187.kept (f_h191 _ (by omega) (by omega))
        have by203 : ByA z kv h191 (kv 4) (kT 4) := by188.kept (f_h191 _ (by omega) (by omega))
        have sb204 : SbA z h191 hi vw180 tt181 := s_h178.kept (f_h191 _ (by omega) (by omega)) (f_h191 _ (by omega) (by omega))
        refine ax_sVq (mc := 1) (ms := 256) (st := []) hC hX [.ref q_sq193] (sb204.rc hC) (c_J4_append_15ec4 l D z B lo _ _ kr kv hi vw180 tt181 q_sq193 v_sq193 tt194 sb204 s_h191 y_h191 (by omega) (by omega) (by omega) (by omega) (by omega) (by omega)) (cwV 1 hC.1.2.2.2.2 gL_made_J4_append_15ec4 rfl rfl rfl (by decide +kernel) ⟨Nat.le_of_ble_eq_true rfl, Nat.le_of_ble_eq_true rfl⟩) rfl rfl (Nat.le_of_ble_eq_true rfl) dL_made_174 ⟨Nat.le_of_ble_eq_true rfl, Nat.le_of_ble_eq_true rfl⟩ (fun r205 hi206 h207 hp208 => ?_)
        obtain ⟨rfl, ⟨vw209, s_h207, j_h207, k_h207⟩, i1_h207, i2_h207, f_h207⟩ := hp208
        have m_h207 : hi + 1 ≤ vw209 := by omega
        clear j_h207
        clear d1_h191 d2_h191 d3_h191 d4_h191 nb196 nb197
        have x211 : h207 aa = some (.inl (z 1, 1, .inl (g_h191))) := (f_h207 _ (by omega) (by omega) (by omega)).trans a_h191
        have sv212 : StV kr kv h207 ls lv := sv198.kept (f_h207 _ (by omega) (by omega) (by omega))
        have sv213 : StV kr kv h207 (kr 3) (kv 3) := sv199.kept (f_h207 _ (by omega) (by omega) (by omega))
        have sv214 : StV kr kv h207 (kr 4) (kv 4) := sv200.kept (f_h207 _ (by omega) (by omega) (by omega))
        have by215 : ByA z kv h207 lv (lps k) := by201.kept (f_h207 _ (by omega) (by omega) (by omega))
        have by216 : ByA z kv h207 (kv 3) (kT 3) := by202.kept (f_h207 _ (by omega) (by omega) (by omega))
        have by217 : ByA z kv h207 (kv 4) (kT 4) := by203.kept (f_h207 _ (by omega) (by omega) (by omega))
        obtain ⟨tt210, e_tt210⟩ : ∃ u9 : List Nat, u9 = tt181 ++ tt194 := ⟨_, rfl⟩
        have l_tt210 : tt210.length = tt181.length + tt194.length := by rw [e_tt210, List.length_append]
        rw [← e_tt210] at s_h207
        refine ax_sVq (mc := 2) (ms := 114) (st := []) hC hX [] (s_h207.rc hC) (c_J4_toString_0e30d l D z B lo _ _ kr kv hi vw209 tt210 s_h207 (by omega)) (cwV 0 hC.1.2.2.2.2 gL_made_J4_toString_0e30d rfl rfl rfl (by decide +kernel) ⟨Nat.le_of_ble_eq_true rfl, Nat.le_of_ble_eq_true rfl⟩) rfl rfl (Nat.le_of_ble_eq_true rfl) dL_made_177 ⟨Nat.le_of_ble_eq_true rfl, Nat.le_of_ble_eq_true rfl⟩ (fun r218 hi219 h220 hp221 => ?_)
        obtain ⟨rfl, s_h220, y_h220, i_h220, f_h220⟩ := hp221
        have x223 : h220 aa = some (.inl (z 1, 1, .inl (g_h191))) := (f_h220 _ (by omega)).trans x211
        have sv224 : StV kr kv h220 ls lv := sv212.kept (f_h220 _ (by omega))
        have sv225 : StV kr kv h220 (kr 3) (kv 3) := sv213.kept (f_h220 _ (by omega))
        have sv226 : StV kr kv h220 (kr 4) (kv 4) := sv214.kept (f_h220 _ (by omega))
        have by227 : ByA z kv h220 lv (lps k) := by215.kept (f_h220 _ (by omega))
        have by228 : ByA z kv h220 (kv 3) (kT 3) := by216.kept (f_h220 _ (by omega))
        have by229 : ByA z kv h220 (kv 4) (kT 4) := by217.kept (f_h220 _ (by omega))
        refine ax_widen (k := 300) (n := 64000) (by omega) (by omega) ?_
        refine ax_aret hC (some hi206) hr hlocks dL_made_180 ?_
        have ex230 := mk_send (cn := cnV kv) (n := 1) (k := k) (a := pos) (f := fn) (w := true) k9
        have tex230 : txt (fn + 1) true k (mkT (cnV kv) 2 k pos).1 = tt210 := by
          refine ex230.2.trans ?_
          subst e_tt210; subst e_tt194; subst e_tt181; subst e_tt168; subst e_tt154; subst e_tt142
          subst e_pp195; subst e_pp155
          first | rfl | (simp only [List.nil_append, List.append_assoc]; rfl)
        have pex230 : (mkT (cnV kv) 2 k pos).2 = pp195 := by
          refine ex230.1.trans ?_
          subst e_pp195; subst e_pp155
          rfl
        rw [tex230, pex230]
        exact ⟨_, _, rfl, s_h220, y_h220, ⟨_, x223, z_h191⟩, by omega, by omega, by omega, by omega, by omega, by omega, by omega, by omega, by omega, fun q hq hq2 => ((f_h220 q (by omega)).trans ((f_h207 q (by omega) (by omega) (by omega)).trans ((f_h191 q (by omega) (by omega)).trans ((f_h178 q (by omega) (by omega) (by omega)).trans ((f_h165 q (by omega) (by omega) (by omega)).trans ((f_h151 q (by omega) (by omega)).trans ((f_h139 q (by omega) (by omega) (by omega)).trans ((f_h130 q (by omega) (by omega)).trans ((f125 q (by omega)).trans (f3 q (by omega)))))))))))⟩
      · exact absurd c148 (by decide)
    by_cases s231 : (nI (cnV kv pos % 9)) = 3
    · refine ax_tableIn (tgt := 181) (off := 106) hC dL_made_75 (by rw [s231]; decide) (by rw [s231]; decide) (by rw [s231]; decide) (by decide) ?_
      have k9 : cnV kv pos % 9 = 3 ∨ cnV kv pos % 9 = 4 := by have u_s9 : ¬ cnV kv pos % 9 = 0 := fun e => s9 (by rw [e]; rfl); have u_s13 : ¬ cnV kv pos % 9 = 1 := fun e => s13 (by rw [e]; rfl); have u_s122 : ¬ cnV kv pos % 9 = 2 := fun e => s122 (by rw [e]; rfl); have u_s231 : cnV kv pos % 9 = 3 := (nI_eq (b := 3) (by omega) (by decide)).mp s231; omega
      refine ax_new (C := RJ4) (T := TJ4) (N := 4) (ci := 1) (fs := [.null, .int 0, .int 0, .int 0]) hC tyJ4 iJ4 tyJ4_ok (by decide +kernel) (by decide +kernel) (by decide +kernel) rfl (fun j hj => by rcases (show j = 0 ∨ j = 1 ∨ j = 2 ∨ j = 3 by omega) with rfl | rfl | rfl | rfl <;> rfl) (Nat.le_of_ble_eq_true rfl) (Nat.le_of_ble_eq_true rfl) dL_made_181 (fun h232 e233 f234 => ?_)
      have e233 : h232 hi = some (.inr (1, [.null, .int 0, .int 0, .int 0])) := e233
      have x235 : h232 aa = some (.inl (z 1, 1, .inl ((upd g0 (0 : Int32).toNatClampNeg (nI (pos + 1)))))) := (f234 _ (by omega)).trans e2
      have sv236 : StV kr kv h232 ls lv := sv4.kept (f234 _ (by omega))
      have by237 : ByA z kv h232 lv (lps k) := by5.kept (f234 _ (by omega))
      refine ax_dup hC dL_made_184 rfl ?_
      refine ax_sIv (mc := 1) (ms := 16) (st := [.ref hi]) hC hX [] (c_J4_init_da8c8 l D z B lo _ _ kr kv hi e233) (cwI 0 hC.1.2.2.2.2 gL_made_J4_init_da8c8 rfl rfl rfl (hC.1.2.2.2.2 _ (by decide +kernel)) (hC.1.2.2.2.2 _ (by decide +kernel)) (hC.1.2.2.2.2 _ (by decide +kernel)) rfl (by decide +kernel) ⟨Nat.le_of_ble_eq_true rfl, Nat.le_of_ble_eq_true rfl⟩) rfl rfl (Nat.le_of_ble_eq_true rfl) dL_made_185 ⟨Nat.le_of_ble_eq_true rfl, Nat.le_of_ble_eq_true rfl⟩ (fun hi238 h239 hp240 => ?_)
      obtain ⟨i_h239, b_h239, v_h239, f_h239⟩ := hp240
      have j_h239 : hi238 = hi + 1 + 1 := i_h239
      have x241 : h239 aa = some (.inl (z 1, 1, .inl ((upd g0 (0 : Int32).toNatClampNeg (nI (pos + 1)))))) := (f_h239 _ (by omega) (by omega)).trans x235
      have sv242 : StV kr kv h239 ls lv := sv236.kept (f_h239 _ (by omega) (by omega))
      have by243 : ByA z kv h239 lv (lps k) := by237.kept (f_h239 _ (by omega) (by omega))
      have s_h239 : SbA z h239 hi (hi + 1) [] := SbA.born b_h239 v_h239
      refine ax_ldcS hC hX 5 (by decide) rfl dL_made_188 ?_
      have sv244 : StV kr kv h239 (kr 5) (kv 5) := Or.inr ⟨5, by decide, rfl, rfl⟩
      have by245 : ByA z kv h239 (kv 5) (kT 5) := Or.inr ⟨5, by decide, rfl, rfl⟩
      have lt_5 := hX.lt (i := 5) (by decide)
      have lk_5 : (kT 5).length = 1 := by decide
      have ln0 : ([] : List Nat).length = 0 := rfl
      refine ax_sVq (mc := 1) (ms := 256) (st := []) hC hX [.ref (kr 5)] (s_h239.rc hC) (c_J4_append_15ec4 l D z B lo _ _ kr kv hi (hi + 1) ([] : List Nat) (kr 5) (kv 5) (kT 5) s_h239 sv244 by245 (by omega) (by omega) (by omega) (by omega) (by omega) (by omega)) (cwV 1 hC.1.2.2.2.2 gL_made_J4_append_15ec4 rfl rfl rfl (by decide +kernel) ⟨Nat.le_of_ble_eq_true rfl, Nat.le_of_ble_eq_true rfl⟩) rfl rfl (Nat.le_of_ble_eq_true rfl) dL_made_190 ⟨Nat.le_of_ble_eq_true rfl, Nat.le_of_ble_eq_true rfl⟩ (fun r246 hi247 h248 hp249 => ?_)
      obtain ⟨rfl, ⟨vw250, s_h248, j_h248, k_h248⟩, i1_h248, i2_h248, f_h248⟩ := hp249
      have m_h248 : hi + 1 ≤ vw250 := by omega
      clear j_h248
      have x252 : h248 aa = some (.inl (z 1, 1, .inl ((upd g0 (0 : Int32).toNatClampNeg (nI (pos + 1)))))) := (f_h248 _ (by omega) (by omega) (by omega)).trans x241
      have sv253 : StV kr kv h248 ls lv := sv242.kept (f_h248 _ (by omega) (by omega) (by omega))
      have sv254 : StV kr kv h248 (kr 5) (kv 5) := sv244.kept (f_h248 _ (by omega) (by omega) (by omega))
      have by255 : ByA z kv h248 lv (lps k) := by243.kept (f_h248 _ (by omega) (by omega) (by omega))
      have by256 : ByA z kv h248 (kv 5) (kT 5) := by245.kept (f_h248 _ (by omega) (by omega) (by omega))
      obtain ⟨tt251, e_tt251⟩ : ∃ u9 : List Nat, u9 = ([] : List Nat) ++ kT 5 := ⟨_, rfl⟩
      have l_tt251 : tt251.length = ([] : List Nat).length + (kT 5).length := by rw [e_tt251, List.length_append]
      rw [← e_tt251] at s_h248
      refine ax_aload_n hC 1 dL_made_193 rfl rfl ?_
      refine ax_aload_n hC 2 dL_made_194 rfl rfl ?_
      refine ax_iload_n hC 3 dL_made_195 rfl rfl ?_
      refine ax_iload hC 5 dL_made_196 rfl ?_
      refine ax_iload hC 0 dL_made_198 rfl ?_
      refine ax_iconst (v := 4) hC dL_made_200 (by decide) ?_
      refine ax_ishr hC dL_made_201 ?_
      refine ax_eqi (y := nI (cnV kv pos / 16)) ((nI_shr (by omega)).1) ?_
      refine ax_sSq (mc := 60) (ms := 12000) (st := [.ref hi]) hC hX [.ref (kr 19), .ref aa, .int 2, .int 1, .int (nI (cnV kv pos / 16))] (c_L_said_21 l D z B lo _ _ kr kv aa (pos + 1) (cnV kv pos / 16) fn _ x252 g_h1 (by omega) (by omega) (by omega)) (va_cwS 5 hC.1.2.2.2.2 gL_made_L_said rfl rfl rfl (by decide +kernel) ⟨Nat.le_of_ble_eq_true rfl, Nat.le_of_ble_eq_true rfl⟩) rfl rfl (Nat.le_of_ble_eq_true rfl) dL_made_202 ⟨Nat.le_of_ble_eq_true rfl, Nat.le_of_ble_eq_true rfl⟩ (fun r257 hi258 h259 hp260 => ?_)
      obtain ⟨q_sq261, v_sq261, rfl, s_h259, y_h259, ⟨g_h259, a_h259, z_h259⟩, d1_h259, d2_h259, d3_h259, d4_h259, d5_h259, d6_h259, d7_h259, o1_h259, o2_h259, f_h259⟩ := hp260
      have nb264 : q_sq261 ≠ hi := by omega
      have nb265 : v_sq261 ≠ hi := by omega
      clear o1_h259 o2_h259
      obtain ⟨tt262, e_tt262⟩ : ∃ u9 : List Nat, u9 = (sdX (cnV kv) 2 (cnV kv pos / 16) (pos + 1) fn true).1 := ⟨_, rfl⟩
      obtain ⟨pp263, e_pp263⟩ : ∃ u9 : Nat, u9 = (sdX (cnV kv) 2 (cnV kv pos / 16) (pos + 1) fn true).2 := ⟨_, rfl⟩
      rw [← e_tt262] at y_h259 d5_h259
      rw [← e_pp263] at z_h259 d6_h259
      have sv266 : StV kr kv h259 ls lv := sv253.kept (f_h259 _ (by omega) (by omega))
      have sv267 : StV kr kv h259 (kr 5) (kv 5) := sv254.kept (f_h259 _ (by omega) (by omega))
      have by268 : ByA z kv h259 lv (lps k) := by255.kept (f_h259 _ (by omega) (by omega))
      have by269 : ByA z kv h259 (kv 5) (kT 5) := by256.kept (f_h259 _ (by omega) (by omega))
      have sb270 : SbA z h259 hi vw250 tt251 := s_h248.kept (f_h259 _ (by omega) (by omega)) (f_h259 _ (by omega) (by omega))
      refine ax_sVq (mc := 1) (ms := 256) (st := []) hC hX [.ref q_sq261] (sb270.rc hC) (c_J4_append_15ec4 l D z B lo _ _ kr kv hi vw250 tt251 q_sq261 v_sq261 tt262 sb270 s_h259 y_h259 (by omega) (by omega) (by omega) (by omega) (by omega) (by omega)) (cwV 1 hC.1.2.2.2.2 gL_made_J4_append_15ec4 rfl rfl rfl (by decide +kernel) ⟨Nat.le_of_ble_eq_true rfl, Nat.le_of_ble_eq_true rfl⟩) rfl rfl (Nat.le_of_ble_eq_true rfl) dL_made_205 ⟨Nat.le_of_ble_eq_true rfl, Nat.le_of_ble_eq_true rfl⟩ (fun r271 hi272 h273 hp274 => ?_)
      obtain ⟨rfl, ⟨vw275, s_h273, j_h273, k_h273⟩, i1_h273, i2_h273, f_h273⟩ := hp274
      have m_h273 : hi + 1 ≤ vw275 := by omega
      clear j_h273
      clear d1_h259 d2_h259 d3_h259 d4_h259 nb264 nb265
      have x277 : h273 aa = some (.inl (z 1, 1, .inl (g_h259))) := (f_h273 _ (by omega) (by omega) (by omega)).trans a_h259
      have sv278 : StV kr kv h273 ls lv := sv266.kept (f_h273 _ (by omega) (by omega) (by omega))
      have sv279 : StV kr kv h273 (kr 5) (kv 5) := sv267.kept (f_h273 _ (by omega) (by omega) (by omega))
      have by280 : ByA z kv h273 lv (lps k) := by268.kept (f_h273 _ (by omega) (by omega) (by omega))
      have by281 : ByA z kv h273 (kv 5) (kT 5) := by269.kept (f_h273 _ (by omega) (by omega) (by omega))
      obtain ⟨tt276, e_tt276⟩ : ∃ u9 : List Nat, u9 = tt251 ++ tt262 := ⟨_, rfl⟩
      have l_tt276 : tt276.length = tt251.length + tt262.length := by rw [e_tt276, List.length_append]
      rw [← e_tt276] at s_h273
      refine ax_ldcS hC hX 4 (by decide) rfl dL_made_208 ?_
      have sv282 : StV kr kv h273 (kr 4) (kv 4) := Or.inr ⟨4, by decide, rfl, rfl⟩
      have by283 : ByA z kv h273 (kv 4) (kT 4) := Or.inr ⟨4, by decide, rfl, rfl⟩
      have lt_4 := hX.lt (i := 4) (by decide)
      have lk_4 : (kT 4).length = 1 := by decide
      refine ax_sVq (mc := 1) (ms := 256) (st := []) hC hX [.ref (kr 4)] (s_h273.rc hC) (c_J4_append_15ec4 l D z B lo _ _ kr kv hi vw275 tt276 (kr 4) (kv 4) (kT 4) s_h273 sv282 by283 (by omega) (by omega) (by omega) (by omega) (by omega) (by omega)) (cwV 1 hC.1.2.2.2.2 gL_made_J4_append_15ec4 rfl rfl rfl (by decide +kernel) ⟨Nat.le_of_ble_eq_true rfl, Nat.le_of_ble_eq_true rfl⟩) rfl rfl (Nat.le_of_ble_eq_true rfl) dL_made_210 ⟨Nat.le_of_ble_eq_true rfl, Nat.le_of_ble_eq_true rfl⟩ (fun r284 hi285 h286 hp287 => ?_)
      obtain ⟨rfl, ⟨vw288, s_h286, j_h286, k_h286⟩, i1_h286, i2_h286, f_h286⟩ := hp287
      have m_h286 : hi + 1 ≤ vw288 := by omega
      clear j_h286
      have x290 : h286 aa = some (.inl (z 1, 1, .inl (g_h259))) := (f_h286 _ (by omega) (by omega) (by omega)).trans x277
      have sv291 : StV kr kv h286 ls lv := sv278.kept (f_h286 _ (by omega) (by omega) (by omega))
      have sv292 : StV kr kv h286 (kr 5) (kv 5) := sv279.kept (f_h286 _ (by omega) (by omega) (by omega))
      have sv293 : StV kr kv h286 (kr 4) (kv 4) := sv282.kept (f_h286 _ (by omega) (by omega) (by omega))
      have by294 : ByA z kv h286 lv (lps k) := by280.kept (f_h286 _ (by omega) (by omega) (by omega))
      have by295 : ByA z kv h286 (kv 5) (kT 5) := by281.kept (f_h286 _ (by omega) (by omega) (by omega))
      have by296 : ByA z kv h286 (kv 4) (kT 4) := by283.kept (f_h286 _ (by omega) (by omega) (by omega))
      obtain ⟨tt289, e_tt289⟩ : ∃ u9 : List Nat, u9 = tt276 ++ kT 4 := ⟨_, rfl⟩
      have l_tt289 : tt289.length = tt276.length + (kT 4).length := by rw [e_tt289, List.length_append]
      rw [← e_tt289] at s_h286
      refine ax_aload_n hC 1 dL_made_213 rfl rfl ?_
      refine ax_aload_n hC 2 dL_made_214 rfl rfl ?_
      refine ax_iload_n hC 3 dL_made_215 rfl rfl ?_
      refine ax_iconst (v := 1) hC dL_made_216 (by decide) ?_
      refine ax_isub hC dL_made_217 ?_
      refine ax_eqi (y := 1) (by decide) ?_
      refine ax_aload_n hC 4 dL_made_218 rfl rfl ?_
      refine ax_iload hC 5 dL_made_219 rfl ?_
      refine ax_sSq (mc := 120) (ms := 26000) (st := [.ref hi]) hC hX [.ref (kr 19), .ref aa, .int 1, .ref ls, .int 1] (c_L_made_11 l D z B lo _ _ kr kv aa pp263 k fn ls lv _ x290 z_h259 (by omega) sv291 by294 (by omega) (by omega) (by omega) (by omega) (by omega) (by omega)) (va_cwS 5 hC.1.2.2.2.2 gL_made_L_made rfl rfl rfl (by decide +kernel) ⟨Nat.le_of_ble_eq_true rfl, Nat.le_of_ble_eq_true rfl⟩) rfl rfl (Nat.le_of_ble_eq_true rfl) dL_made_221 ⟨Nat.le_of_ble_eq_true rfl, Nat.le_of_ble_eq_true rfl⟩ (fun r297 hi298 h299 hp300 => ?_)
      obtain ⟨q_sq301, v_sq301, rfl, s_h299, y_h299, ⟨g_h299, a_h299, z_h299⟩, d1_h299, d2_h299, d3_h299, d4_h299, d5_h299, d6_h299, d7_h299, o1_h299, o2_h299, f_h299⟩ := hp300
      have nb304 : q_sq301 ≠ hi := by omega
      have nb305 : v_sq301 ≠ hi := by omega
      clear o1_h299 o2_h299
      obtain ⟨tt302, e_tt302⟩ : ∃ u9 : List Nat, u9 = txt fn true k (mkT (cnV kv) 1 k pp263).1 := ⟨_, rfl⟩
      obtain ⟨pp303, e_pp303⟩ : ∃ u9 : Nat, u9 = (mkT (cnV kv) 1 k pp263).2 := ⟨_, rfl⟩
      rw [← e_tt302] at y_h299 d5_h299
      rw [← e_pp303] at z_h299 d6_h299
      have sv306 : StV kr kv h299 ls lv := sv291.kept (f_h299 _ (by omega) (by omega))
      have sv307 : StV kr kv h299 (kr 5) (kv 5) := sv292.kept (f_h299 _ (by omega) (by omega))
      have sv308 : StV kr kv h299 (kr 4) (kv 4) := sv293.kept (f_h299 _ (by omega) (by omega))
      have by309 : ByA z kv h299 lv (lps k) := by294.kept (f_h299 _ (by omega) (by omega))
      have by310 : ByA z kv h299 (kv 5) (kT 5) := by295.kept (f_h299 _ (by omega) (by omega))
      have by311 : ByA z kv h299 (kv 4) (kT 4) := by296.kept (f_h299 _ (by omega) (by omega))
      have sb312 : SbA z h299 hi vw288 tt289 := s_h286.kept (f_h299 _ (by omega) (by omega)) (f_h299 _ (by omega) (by omega))
      refine ax_sVq (mc := 1) (ms := 256) (st := []) hC hX [.ref q_sq301] (sb312.rc hC) (c_J4_append_15ec4 l D z B lo _ _ kr kv hi vw288 tt289 q_sq301 v_sq301 tt302 sb312 s_h299 y_h299 (by omega) (by omega) (by omega) (by omega) (by omega) (by omega)) (cwV 1 hC.1.2.2.2.2 gL_made_J4_append_15ec4 rfl rfl rfl (by decide +kernel) ⟨Nat.le_of_ble_eq_true rfl, Nat.le_of_ble_eq_true rfl⟩) rfl rfl (Nat.le_of_ble_eq_true rfl) dL_made_224 ⟨Nat.le_of_ble_eq_true rfl, Nat.le_of_ble_eq_true rfl⟩ (fun r313 hi314 h315 hp316 => ?_)
      obtain ⟨rfl, ⟨vw317, s_h315, j_h315, k_h315⟩, i1_h315, i2_h315, f_h315⟩ := hp316
      have m_h315 : hi + 1 ≤ vw317 := by omega
      clear j_h315
      clear d1_h299 d2_h299 d3_h299 d4_h299 nb304 nb305
      have x319 : h315 aa = some (.inl (z 1, 1, .inl (g_h299))) := (f_h315 _ (by omega) (by omega) (by omega)).trans a_h299
      have sv320 : StV kr kv h315 ls lv := sv306.kept (f_h315 _ (by omega) (by omega) (by omega))
      have sv321 : StV kr kv h315 (kr 5) (kv 5) := sv307.kept (f_h315 _ (by omega) (by omega) (by omega))
      have sv322 : StV kr kv h315 (kr 4) (kv 4) := sv308.kept (f_h315 _ (by omega) (by omega) (by omega))
      have by323 : ByA z kv h315 lv (lps k) := by309.kept (f_h315 _ (by omega) (by omega) (by omega))
      have by324 : ByA z kv h315 (kv 5) (kT 5) := by310.kept (f_h315 _ (by omega) (by omega) (by omega))
      have by325 : ByA z kv h315 (kv 4) (kT 4) := by311.kept (f_h315 _ (by omega) (by omega) (by omega))
      obtain ⟨tt318, e_tt318⟩ : ∃ u9 : List Nat, u9 = tt289 ++ tt302 := ⟨_, rfl⟩
      have l_tt318 : tt318.length = tt289.length + tt302.length := by rw [e_tt318, List.length_append]
      rw [← e_tt318] at s_h315
      refine ax_sVq (mc := 2) (ms := 114) (st := []) hC hX [] (s_h315.rc hC) (c_J4_toString_0e30d l D z B lo _ _ kr kv hi vw317 tt318 s_h315 (by omega)) (cwV 0 hC.1.2.2.2.2 gL_made_J4_toString_0e30d rfl rfl rfl (by decide +kernel) ⟨Nat.le_of_ble_eq_true rfl, Nat.le_of_ble_eq_true rfl⟩) rfl rfl (Nat.le_of_ble_eq_true rfl) dL_made_227 ⟨Nat.le_of_ble_eq_true rfl, Nat.le_of_ble_eq_true rfl⟩ (fun r326 hi327 h328 hp329 => ?_)
      obtain ⟨rfl, s_h328, y_h328, i_h328, f_h328⟩ := hp329
      have x331 : h328 aa = some (.inl (z 1, 1, .inl (g_h299))) := (f_h328 _ (by omega)).trans x319
      have sv332 : StV kr kv h328 ls lv := sv320.kept (f_h328 _ (by omega))
      have sv333 : StV kr kv h328 (kr 5) (kv 5) := sv321.kept (f_h328 _ (by omega))
      have sv334 : StV kr kv h328 (kr 4) (kv 4) := sv322.kept (f_h328 _ (by omega))
      have by335 : ByA z kv h328 lv (lps k) := by323.kept (f_h328 _ (by omega))
      have by336 : ByA z kv h328 (kv 5) (kT 5) := by324.kept (f_h328 _ (by omega))
      have by337 : ByA z kv h328 (kv 4) (kT 4) := by325.kept (f_h328 _ (by omega))
      refine ax_widen (k := 300) (n := 64000) (by omega) (by omega) ?_
      refine ax_aret hC (some hi314) hr hlocks dL_made_230 ?_
      have ex338 := mk_take (cn := cnV kv) (n := 1) (k := k) (a := pos) (f := fn) (w := true) k9
      have tex338 : txt (fn + 1) true k (mkT (cnV kv) 2 k pos).1 = tt318 := by
        refine ex338.2.trans ?_
        subst e_tt318; subst e_tt302; subst e_tt289; subst e_tt276; subst e_tt262; subst e_tt251
        subst e_pp303; subst e_pp263
        first | rfl | (simp only [List.nil_append, List.append_assoc]; rfl)
      have pex338 : (mkT (cnV kv) 2 k pos).2 = pp303 := by
        refine ex338.1.trans ?_
        subst e_pp303; subst e_pp263
        rfl
      rw [tex338, pex338]
      exact ⟨_, _, rfl, s_h328, y_h328, ⟨_, x331, z_h299⟩, by omega, by omega, by omega, by omega, by omega, by omega, by omega, by omega, by omega, fun q hq hq2 => ((f_h328 q (by omega)).trans ((f_h315 q (by omega) (by omega) (by omega)).trans ((f_h299 q (by omega) (by omega)).trans ((f_h286 q (by omega) (by omega) (by omega)).trans ((f_h273 q (by omega) (by omega) (by omega)).trans ((f_h259 q (by omega) (by omega)).trans ((f_h248 q (by omega) (by omega) (by omega)).trans ((f_h239 q (by omega) (by omega)).trans ((f234 q (by omega)).trans (f3 q (by omega)))))))))))⟩
    by_cases s339 : (nI (cnV kv pos % 9)) = 4
    · refine ax_tableIn (tgt := 181) (off := 106) hC dL_made_75 (by rw [s339]; decide) (by rw [s339]; decide) (by rw [s339]; decide) (by decide) ?_
      have k9 : cnV kv pos % 9 = 3 ∨ cnV kv pos % 9 = 4 := by have u_s9 : ¬ cnV kv pos % 9 = 0 := fun e => s9 (by rw [e]; rfl); have u_s13 : ¬ cnV kv pos % 9 = 1 := fun e => s13 (by rw [e]; rfl); have u_s122 : ¬ cnV kv pos % 9 = 2 := fun e => s122 (by rw [e]; rfl); have u_s231 : ¬ cnV kv pos % 9 = 3 := fun e => s231 (by rw [e]; rfl); have u_s339 : cnV kv pos % 9 = 4 := (nI_eq (b := 4) (by omega) (by decide)).mp s339; omega
      refine ax_new (C := RJ4) (T := TJ4) (N := 4) (ci := 1) (fs := [.null, .int 0, .int 0, .int 0]) hC tyJ4 iJ4 tyJ4_ok (by decide +kernel) (by decide +kernel) (by decide +kernel) rfl (fun j hj => by rcases (show j = 0 ∨ j = 1 ∨ j = 2 ∨ j = 3 by omega) with rfl | rfl | rfl | rfl <;> rfl) (Nat.le_of_ble_eq_true rfl) (Nat.le_of_ble_eq_true rfl) dL_made_181 (fun h340 e341 f342 => ?_)
      have e341 : h340 hi = some (.inr (1, [.null, .int 0, .int 0, .int 0])) := e341
      have x343 : h340 aa = some (.inl (z 1, 1, .inl ((upd g0 (0 : Int32).toNatClampNeg (nI (pos + 1)))))) := (f342 _ (by omega)).trans e2
      have sv344 : StV kr kv h340 ls lv := sv4.kept (f342 _ (by omega))
      have by345 : ByA z kv h340 lv (lps k) := by5.kept (f342 _ (by omega))
      refine ax_dup hC dL_made_184 rfl ?_
      refine ax_sIv (mc := 1) (ms := 16) (st := [.ref hi]) hC hX [] (c_J4_init_da8c8 l D z B lo _ _ kr kv hi e341) (cwI 0 hC.1.2.2.2.2 gL_made_J4_init_da8c8 rfl rfl rfl (hC.1.2.2.2.2 _ (by decide +kernel)) (hC.1.2.2.2.2 _ (by decide +kernel)) (hC.1.2.2.2.2 _ (by decide +kernel)) rfl (by decide +kernel) ⟨Nat.le_of_ble_eq_true rfl, Nat.le_of_ble_eq_true rfl⟩) rfl rfl (Nat.le_of_ble_eq_true rfl) dL_made_185 ⟨Nat.le_of_ble_eq_true rfl, Nat.le_of_ble_eq_true rfl⟩ (fun hi346 h347 hp348 => ?_)
      obtain ⟨i_h347, b_h347, v_h347, f_h347⟩ := hp348
      have j_h347 : hi346 = hi + 1 + 1 := i_h347
      have x349 : h347 aa = some (.inl (z 1, 1, .inl ((upd g0 (0 : Int32).toNatClampNeg (nI (pos + 1)))))) := (f_h347 _ (by omega) (by omega)).trans x343
      have sv350 : StV kr kv h347 ls lv := sv344.kept (f_h347 _ (by omega) (by omega))
      have by351 : ByA z kv h347 lv (lps k) := by345.kept (f_h347 _ (by omega) (by omega))
      have s_h347 : SbA z h347 hi (hi + 1) [] := SbA.born b_h347 v_h347
      refine ax_ldcS hC hX 5 (by decide) rfl dL_made_188 ?_
      have sv352 : StV kr kv h347 (kr 5) (kv 5) := Or.inr ⟨5, by decide, rfl, rfl⟩
      have by353 : ByA z kv h347 (kv 5) (kT 5) := Or.inr ⟨5, by decide, rfl, rfl⟩
      have lt_5 := hX.lt (i := 5) (by decide)
      have lk_5 : (kT 5).length = 1 := by decide
      have ln0 : ([] : List Nat).length = 0 := rfl
      refine ax_sVq (mc := 1) (ms := 256) (st := []) hC hX [.ref (kr 5)] (s_h347.rc hC) (c_J4_append_15ec4 l D z B lo _ _ kr kv hi (hi + 1) ([] : List Nat) (kr 5) (kv 5) (kT 5) s_h347 sv352 by353 (by omega) (by omega) (by omega) (by omega) (by omega) (by omega)) (cwV 1 hC.1.2.2.2.2 gL_made_J4_append_15ec4 rfl rfl rfl (by decide +kernel) ⟨Nat.le_of_ble_eq_true rfl, Nat.le_of_ble_eq_true rfl⟩) rfl rfl (Nat.le_of_ble_eq_true rfl) dL_made_190 ⟨Nat.le_of_ble_eq_true rfl, Nat.le_of_ble_eq_true rfl⟩ (fun r354 hi355 h356 hp357 => ?_)
      obtain ⟨rfl, ⟨vw358, s_h356, j_h356, k_h356⟩, i1_h356, i2_h356, f_h356⟩ := hp357
      have m_h356 : hi + 1 ≤ vw358 := by omega
      clear j_h356
      have x360 : h356 aa = some (.inl (z 1, 1, .inl ((upd g0 (0 : Int32).toNatClampNeg (nI (pos + 1)))))) := (f_h356 _ (by omega) (by omega) (by omega)).trans x349
      have sv361 : StV kr kv h356 ls lv := sv350.kept (f_h356 _ (by omega) (by omega) (by omega))
      have sv362 : StV kr kv h356 (kr 5) (kv 5) := sv352.kept (f_h356 _ (by omega) (by omega) (by omega))
      have by363 : ByA z kv h356 lv (lps k) := by351.kept (f_h356 _ (by omega) (by omega) (by omega))
      have by364 : ByA z kv h356 (kv 5) (kT 5) := by353.kept (f_h356 _ (by omega) (by omega) (by omega))
      obtain ⟨tt359, e_tt359⟩ : ∃ u9 : List Nat, u9 = ([] : List Nat) ++ kT 5 := ⟨_, rfl⟩
      have l_tt359 : tt359.length = ([] : List Nat).length + (kT 5).length := by rw [e_tt359, List.length_append]
      rw [← e_tt359] at s_h356
      refine ax_aload_n hC 1 dL_made_193 rfl rfl ?_
      refine ax_aload_n hC 2 dL_made_194 rfl rfl ?_
      refine ax_iload_n hC 3 dL_made_195 rfl rfl ?_
      refine ax_iload hC 5 dL_made_196 rfl ?_
      refine ax_iload hC 0 dL_made_198 rfl ?_
      refine ax_iconst (v := 4) hC dL_made_200 (by decide) ?_
      refine ax_ishr hC dL_made_201 ?_
      refine ax_eqi (y := nI (cnV kv pos / 16)) ((nI_shr (by omega)).1) ?_
      refine ax_sSq (mc := 60) (ms := 12000) (st := [.ref hi]) hC hX [.ref (kr 19), .ref aa, .int 2, .int 1, .int (nI (cnV kv pos / 16))] (c_L_said_21 l D z B lo _ _ kr kv aa (pos + 1) (cnV kv pos / 16) fn _ x360 g_h1 (by omega) (by omega) (by omega)) (va_cwS 5 hC.1.2.2.2.2 gL_made_L_said rfl rfl rfl (by decide +kernel) ⟨Nat.le_of_ble_eq_true rfl, Nat.le_of_ble_eq_true rfl⟩) rfl rfl (Nat.le_of_ble_eq_true rfl) dL_made_202 ⟨Nat.le_of_ble_eq_true rfl, Nat.le_of_ble_eq_true rfl⟩ (fun r365 hi366 h367 hp368 => ?_)
      obtain ⟨q_sq369, v_sq369, rfl, s_h367, y_h367, ⟨g_h367, a_h367, z_h367⟩, d1_h367, d2_h367, d3_h367, d4_h367, d5_h367, d6_h367, d7_h367, o1_h367, o2_h367, f_h367⟩ := hp368
      have nb372 : q_sq369 ≠ hi := by omega
      have nb373 : v_sq369 ≠ hi := by omega
      clear o1_h367 o2_h367
      obtain ⟨tt370, e_tt370⟩ : ∃ u9 : List Nat, u9 = (sdX (cnV kv) 2 (cnV kv pos / 16) (pos + 1) fn true).1 := ⟨_, rfl⟩
      obtain ⟨pp371, e_pp371⟩ : ∃ u9 : Nat, u9 = (sdX (cnV kv) 2 (cnV kv pos / 16) (pos + 1) fn true).2 := ⟨_, rfl⟩
      rw [← e_tt370] at y_h367 d5_h367
      rw [← e_pp371] at z_h367 d6_h367
      have sv374 : StV kr kv h367 ls lv := sv361.kept (f_h367 _ (by omega) (by omega))
      have sv375 : StV kr kv h367 (kr 5) (kv 5) := sv362.kept (f_h367 _ (by omega) (by omega))
      have by376 : ByA z kv h367 lv (lps k) := by363.kept (f_h367 _ (by omega) (by omega))
      have by377 : ByA z kv h367 (kv 5) (kT 5) := by364.kept (f_h367 _ (by omega) (by omega))
      have sb378 : SbA z h367 hi vw358 tt359 := s_h356.kept (f_h367 _ (by omega) (by omega)) (f_h367 _ (by omega) (by omega))
      refine ax_sVq (mc := 1) (ms := 256) (st := []) hC hX [.ref q_sq369] (sb378.rc hC) (c_J4_append_15ec4 l D z B lo _ _ kr kv hi vw358 tt359 q_sq369 v_sq369 tt370 sb378 s_h367 y_h367 (by omega) (by omega) (by omega) (by omega) (by omega) (by omega)) (cwV 1 hC.1.2.2.2.2 gL_made_J4_append_15ec4 rfl rfl rfl (by decide +kernel) ⟨Nat.le_of_ble_eq_true rfl, Nat.le_of_ble_eq_true rfl⟩) rfl rfl (Nat.le_of_ble_eq_true rfl) dL_made_205 ⟨Nat.le_of_ble_eq_true rfl, Nat.le_of_ble_eq_true rfl⟩ (fun r379 hi380 h381 hp382 => ?_)
      obtain ⟨rfl, ⟨vw383, s_h381, j_h381, k_h381⟩, i1_h381, i2_h381, f_h381⟩ := hp382
      have m_h381 : hi + 1 ≤ vw383 := by omega
      clear j_h381
      clear d1_h367 d2_h367 d3_h367 d4_h367 nb372 nb373
      have x385 : h381 aa = some (.inl (z 1, 1, .inl (g_h367))) := (f_h381 _ (by omega) (by omega) (by omega)).trans a_h367
      have sv386 : StV kr kv h381 ls lv := sv374.kept (f_h381 _ (by omega) (by omega) (by omega))
      have sv387 : StV kr kv h381 (kr 5) (kv 5) := sv375.kept (f_h381 _ (by omega) (by omega) (by omega))
      have by388 : ByA z kv h381 lv (lps k) := by376.kept (f_h381 _ (by omega) (by omega) (by omega))
      have by389 : ByA z kv h381 (kv 5) (kT 5) := by377.kept (f_h381 _ (by omega) (by omega) (by omega))
      obtain ⟨tt384, e_tt384⟩ : ∃ u9 : List Nat, u9 = tt359 ++ tt370 := ⟨_, rfl⟩
      have l_tt384 : tt384.length = tt359.length + tt370.length := by rw [e_tt384, List.length_append]
      rw [← e_tt384] at s_h381
      refine ax_ldcS hC hX 4 (by decide) rfl dL_made_208 ?_
      have sv390 : StV kr kv h381 (kr 4) (kv 4) := Or.inr ⟨4, by decide, rfl, rfl⟩
      have by391 : ByA z kv h381 (kv 4) (kT 4) := Or.inr ⟨4, by decide, rfl, rfl⟩
      have lt_4 := hX.lt (i := 4) (by decide)
      have lk_4 : (kT 4).length = 1 := by decide
      refine ax_sVq (mc := 1) (ms := 256) (st := []) hC hX [.ref (kr 4)] (s_h381.rc hC) (c_J4_append_15ec4 l D z B lo _ _ kr kv hi vw383 tt384 (kr 4) (kv 4) (kT 4) s_h381 sv390 by391 (by omega) (by omega) (by omega) (by omega) (by omega) (by omega)) (cwV 1 hC.1.2.2.2.2 gL_made_J4_append_15ec4 rfl rfl rfl (by decide +kernel) ⟨Nat.le_of_ble_eq_true rfl, Nat.le_of_ble_eq_true rfl⟩) rfl rfl (Nat.le_of_ble_eq_true rfl) dL_made_210 ⟨Nat.le_of_ble_eq_true rfl, Nat.le_of_ble_eq_true rfl⟩ (fun r392 hi393 h394 hp395 => ?_)
      obtain ⟨rfl, ⟨vw396, s_h394, j_h394, k_h394⟩, i1_h394, i2_h394, f_h394⟩ := hp395
      have m_h394 : hi + 1 ≤ vw396 := by omega
      clear j_h394
      have x398 : h394 aa = some (.inl (z 1, 1, .inl (g_h367))) := (f_h394 _ (by omega) (by omega) (by omega)).trans x385
      have sv399 : StV kr kv h394 ls lv := sv386.kept (f_h394 _ (by omega) (by omega) (by omega))
      have sv400 : StV kr kv h394 (kr 5) (kv 5) := sv387.kept (f_h394 _ (by omega) (by omega) (by omega))
      have sv401 : StV kr kv h394 (kr 4) (kv 4) := sv390.kept (f_h394 _ (by omega) (by omega) (by omega))
      have by402 : ByA z kv h394 lv (lps k) := by388.kept (f_h394 _ (by omega) (by omega) (by omega))
      have by403 : ByA z kv h394 (kv 5) (kT 5) := by389.kept (f_h394 _ (by omega) (by omega) (by omega))
      have by404 : ByA z kv h394 (kv 4) (kT 4) := by391.kept (f_h394 _ (by omega) (by omega) (by omega))
      obtain ⟨tt397, e_tt397⟩ : ∃ u9 : List Nat, u9 = tt384 ++ kT 4 := ⟨_, rfl⟩
      have l_tt397 : tt397.length = tt384.length + (kT 4).length := by rw [e_tt397, List.length_append]
      rw [← e_tt397] at s_h394
      refine ax_aload_n hC 1 dL_made_213 rfl rfl ?_
      refine ax_aload_n hC 2 dL_made_214 rfl rfl ?_
      refine ax_iload_n hC 3 dL_made_215 rfl rfl ?_
      refine ax_iconst (v := 1) hC dL_made_216 (by decide) ?_
      refine ax_isub hC dL_made_217 ?_
      refine ax_eqi (y := 1) (by decide) ?_
      refine ax_aload_n hC 4 dL_made_218 rfl rfl ?_
      refine ax_iload hC 5 dL_made_219 rfl ?_
      refine ax_sSq (mc := 120) (ms := 26000) (st := [.ref hi]) hC hX [.ref (kr 19), .ref aa, .int 1, .ref ls, .int 1] (c_L_made_11 l D z B lo _ _ kr kv aa pp371 k fn ls lv _ x398 z_h367 (by omega) sv399 by402 (by omega) (by omega) (by omega) (by omega) (by omega) (by omega)) (va_cwS 5 hC.1.2.2.2.2 gL_made_L_made rfl rfl rfl (by decide +kernel) ⟨Nat.le_of_ble_eq_true rfl, Nat.le_of_ble_eq_true rfl⟩) rfl rfl (Nat.le_of_ble_eq_true rfl) dL_made_221 ⟨Nat.le_of_ble_eq_true rfl, Nat.le_of_ble_eq_true rfl⟩ (fun r405 hi406 h407 hp408 => ?_)
      obtain ⟨q_sq409, v_sq409, rfl, s_h407, y_h407, ⟨g_h407, a_h407, z_h407⟩, d1_h407, d2_h407, d3_h407, d4_h407, d5_h407, d6_h407, d7_h407, o1_h407, o2_h407, f_h407⟩ := hp408
      have nb412 : q_sq409 ≠ hi := by omega
      have nb413 : v_sq409 ≠ hi := by omega
      clear o1_h407 o2_h407
      obtain ⟨tt410, e_tt410⟩ : ∃ u9 : List Nat, u9 = txt fn true k (mkT (cnV kv) 1 k pp371).1 := ⟨_, rfl⟩
      obtain ⟨pp411, e_pp411⟩ : ∃ u9 : Nat, u9 = (mkT (cnV kv) 1 k pp371).2 := ⟨_, rfl⟩
      rw [← e_tt410] at y_h407 d5_h407
      rw [← e_pp411] at z_h407 d6_h407
      have sv414 : StV kr kv h407 ls lv := sv399.kept (f_h407 _ (by omega) (by omega))
      have sv415 : StV kr kv h407 (kr 5) (kv 5) := sv400.kept (f_h407 _ (by omega) (by omega))
      have sv416 : StV kr kv h407 (kr 4) (kv 4) := sv401.kept (f_h407 _ (by omega) (by omega))
      have by417 : ByA z kv h407 lv (lps k) := by402.kept (f_h407 _ (by omega) (by omega))
      have by418 : ByA z kv h407 (kv 5) (kT 5) := by403.kept (f_h407 _ (by omega) (by omega))
      have by419 : ByA z kv h407 (kv 4) (kT 4) := by404.kept (f_h407 _ (by omega) (by omega))
      have sb420 : SbA z h407 hi vw396 tt397 := s_h394.kept (f_h407 _ (by omega) (by omega)) (f_h407 _ (by omega) (by omega))
      refine ax_sVq (mc := 1) (ms := 256) (st := []) hC hX [.ref q_sq409] (sb420.rc hC) (c_J4_append_15ec4 l D z B lo _ _ kr kv hi vw396 tt397 q_sq409 v_sq409 tt410 sb420 s_h407 y_h407 (by omega) (by omega) (by omega) (by omega) (by omega) (by omega)) (cwV 1 hC.1.2.2.2.2 gL_made_J4_append_15ec4 rfl rfl rfl (by decide +kernel) ⟨Nat.le_of_ble_eq_true rfl, Nat.le_of_ble_eq_true rfl⟩) rfl rfl (Nat.le_of_ble_eq_true rfl) dL_made_224 ⟨Nat.le_of_ble_eq_true rfl, Nat.le_of_ble_eq_true rfl⟩ (fun r421 hi422 h423 hp424 => ?_)
      obtain ⟨rfl, ⟨vw425, s_h423, j_h423, k_h423⟩, i1_h423, i2_h423, f_h423⟩ := hp424
      have m_h423 : hi + 1 ≤ vw425 := by omega
      clear j_h423
      clear d1_h407 d2_h407 d3_h407 d4_h407 nb412 nb413
      have x427 : h423 aa = some (.inl (z 1, 1, .inl (g_h407))) := (f_h423 _ (by omega) (by omega) (by omega)).trans a_h407
      have sv428 : StV kr kv h423 ls lv := sv414.kept (f_h423 _ (by omega) (by omega) (by omega))
      have sv429 : StV kr kv h423 (kr 5) (kv 5) := sv415.kept (f_h423 _ (by omega) (by omega) (by omega))
      have sv430 : StV kr kv h423 (kr 4) (kv 4) := sv416.kept (f_h423 _ (by omega) (by omega) (by omega))
      have by431 : ByA z kv h423 lv (lps k) := by417.kept (f_h423 _ (by omega) (by omega) (by omega))
      have by432 : ByA z kv h423 (kv 5) (kT 5) := by418.kept (f_h423 _ (by omega) (by omega) (by omega))
      have by433 : ByA z kv h423 (kv 4) (kT 4) := by419.kept (f_h423 _ (by omega) (by omega) (by omega))
      obtain ⟨tt426, e_tt426⟩ : ∃ u9 : List Nat, u9 = tt397 ++ tt410 := ⟨_, rfl⟩
      have l_tt426 : tt426.length = tt397.length + tt410.length := by rw [e_tt426, List.length_append]
      rw [← e_tt426] at s_h423
      refine ax_sVq (mc := 2) (ms := 114) (st := []) hC hX [] (s_h423.rc hC) (c_J4_toString_0e30d l D z B lo _ _ kr kv hi vw425 tt426 s_h423 (by omega)) (cwV 0 hC.1.2.2.2.2 gL_made_J4_toString_0e30d rfl rfl rfl (by decide +kernel) ⟨Nat.le_of_ble_eq_true rfl, Nat.le_of_ble_eq_true rfl⟩) rfl rfl (Nat.le_of_ble_eq_true rfl) dL_made_227 ⟨Nat.le_of_ble_eq_true rfl, Nat.le_of_ble_eq_true rfl⟩ (fun r434 hi435 h436 hp437 => ?_)
      obtain ⟨rfl, s_h436, y_h436, i_h436, f_h436⟩ := hp437
      have x439 : h436 aa = some (.inl (z 1, 1, .inl (g_h407))) := (f_h436 _ (by omega)).trans x427
      have sv440 : StV kr kv h436 ls lv := sv428.kept (f_h436 _ (by omega))
      have sv441 : StV kr kv h436 (kr 5) (kv 5) := sv429.kept (f_h436 _ (by omega))
      have sv442 : StV kr kv h436 (kr 4) (kv 4) := sv430.kept (f_h436 _ (by omega))
      have by443 : ByA z kv h436 lv (lps k) := by431.kept (f_h436 _ (by omega))
      have by444 : ByA z kv h436 (kv 5) (kT 5) := by432.kept (f_h436 _ (by omega))
      have by445 : ByA z kv h436 (kv 4) (kT 4) := by433.kept (f_h436 _ (by omega))
      refine ax_widen (k := 300) (n := 64000) (by omega) (by omega) ?_
      refine ax_aret hC (some hi422) hr hlocks dL_made_230 ?_
      have ex446 := mk_take (cn := cnV kv) (n := 1) (k := k) (a := pos) (f := fn) (w := true) k9
      have tex446 : txt (fn + 1) true k (mkT (cnV kv) 2 k pos).1 = tt426 := by
        refine ex446.2.trans ?_
        subst e_tt426; subst e_tt410; subst e_tt397; subst e_tt384; subst e_tt370; subst e_tt359
        subst e_pp411; subst e_pp371
        first | rfl | (simp only [List.nil_append, List.append_assoc]; rfl)
      have pex446 : (mkT (cnV kv) 2 k pos).2 = pp411 := by
        refine ex446.1.trans ?_
        subst e_pp411; subst e_pp371
        rfl
      rw [tex446, pex446]
      exact ⟨_, _, rfl, s_h436, y_h436, ⟨_, x439, z_h407⟩, by omega, by omega, by omega, by omega, by omega, by omega, by omega, by omega, by omega, fun q hq hq2 => ((f_h436 q (by omega)).trans ((f_h423 q (by omega) (by omega) (by omega)).trans ((f_h407 q (by omega) (by omega)).trans ((f_h394 q (by omega) (by omega) (by omega)).trans ((f_h381 q (by omega) (by omega) (by omega)).trans ((f_h367 q (by omega) (by omega)).trans ((f_h356 q (by omega) (by omega) (by omega)).trans ((f_h347 q (by omega) (by omega)).trans ((f342 q (by omega)).trans (f3 q (by omega)))))))))))⟩
    by_cases s447 : (nI (cnV kv pos % 9)) = 5
    · refine ax_tableIn (tgt := 231) (off := 156) hC dL_made_75 (by rw [s447]; decide) (by rw [s447]; decide) (by rw [s447]; decide) (by decide) ?_
      have k9 : cnV kv pos % 9 = 5 := by have u_s9 : ¬ cnV kv pos % 9 = 0 := fun e => s9 (by rw [e]; rfl); have u_s13 : ¬ cnV kv pos % 9 = 1 := fun e => s13 (by rw [e]; rfl); have u_s122 : ¬ cnV kv pos % 9 = 2 := fun e => s122 (by rw [e]; rfl); have u_s231 : ¬ cnV kv pos % 9 = 3 := fun e => s231 (by rw [e]; rfl); have u_s339 : ¬ cnV kv pos % 9 = 4 := fun e => s339 (by rw [e]; rfl); have u_s447 : cnV kv pos % 9 = 5 := (nI_eq (b := 5) (by omega) (by decide)).mp s447; omega
      refine ax_new (C := RJ4) (T := TJ4) (N := 4) (ci := 1) (fs := [.null, .int 0, .int 0, .int 0]) hC tyJ4 iJ4 tyJ4_ok (by decide +kernel) (by decide +kernel) (by decide +kernel) rfl (fun j hj => by rcases (show j = 0 ∨ j = 1 ∨ j = 2 ∨ j = 3 by omega) with rfl | rfl | rfl | rfl <;> rfl) (Nat.le_of_ble_eq_true rfl) (Nat.le_of_ble_eq_true rfl) dL_made_231 (fun h448 e449 f450 => ?_)
      have e449 : h448 hi = some (.inr (1, [.null, .int 0, .int 0, .int 0])) := e449
      have x451 : h448 aa = some (.inl (z 1, 1, .inl ((upd g0 (0 : Int32).toNatClampNeg (nI (pos + 1)))))) := (f450 _ (by omega)).trans e2
      have sv452 : StV kr kv h448 ls lv := sv4.kept (f450 _ (by omega))
      have by453 : ByA z kv h448 lv (lps k) := by5.kept (f450 _ (by omega))
      refine ax_dup hC dL_made_234 rfl ?_
      refine ax_sIv (mc := 1) (ms := 16) (st := [.ref hi]) hC hX [] (c_J4_init_da8c8 l D z B lo _ _ kr kv hi e449) (cwI 0 hC.1.2.2.2.2 gL_made_J4_init_da8c8 rfl rfl rfl (hC.1.2.2.2.2 _ (by decide +kernel)) (hC.1.2.2.2.2 _ (by decide +kernel)) (hC.1.2.2.2.2 _ (by decide +kernel)) rfl (by decide +kernel) ⟨Nat.le_of_ble_eq_true rfl, Nat.le_of_ble_eq_true rfl⟩) rfl rfl (Nat.le_of_ble_eq_true rfl) dL_made_235 ⟨Nat.le_of_ble_eq_true rfl, Nat.le_of_ble_eq_true rfl⟩ (fun hi454 h455 hp456 => ?_)
      obtain ⟨i_h455, b_h455, v_h455, f_h455⟩ := hp456
      have j_h455 : hi454 = hi + 1 + 1 := i_h455
      have x457 : h455 aa = some (.inl (z 1, 1, .inl ((upd g0 (0 : Int32).toNatClampNeg (nI (pos + 1)))))) := (f_h455 _ (by omega) (by omega)).trans x451
      have sv458 : StV kr kv h455 ls lv := sv452.kept (f_h455 _ (by omega) (by omega))
      have by459 : ByA z kv h455 lv (lps k) := by453.kept (f_h455 _ (by omega) (by omega))
      have s_h455 : SbA z h455 hi (hi + 1) [] := SbA.born b_h455 v_h455
      refine ax_ldcS hC hX 6 (by decide) rfl dL_made_238 ?_
      have sv460 : StV kr kv h455 (kr 6) (kv 6) := Or.inr ⟨6, by decide, rfl, rfl⟩
      have by461 : ByA z kv h455 (kv 6) (kT 6) := Or.inr ⟨6, by decide, rfl, rfl⟩
      have lt_6 := hX.lt (i := 6) (by decide)
      have lk_6 : (kT 6).length = 4 := by decide
      have ln0 : ([] : List Nat).length = 0 := rfl
      refine ax_sVq (mc := 1) (ms := 256) (st := []) hC hX [.ref (kr 6)] (s_h455.rc hC) (c_J4_append_15ec4 l D z B lo _ _ kr kv hi (hi + 1) ([] : List Nat) (kr 6) (kv 6) (kT 6) s_h455 sv460 by461 (by omega) (by omega) (by omega) (by omega) (by omega) (by omega)) (cwV 1 hC.1.2.2.2.2 gL_made_J4_append_15ec4 rfl rfl rfl (by decide +kernel) ⟨Nat.le_of_ble_eq_true rfl, Nat.le_of_ble_eq_true rfl⟩) rfl rfl (Nat.le_of_ble_eq_true rfl) dL_made_240 ⟨Nat.le_of_ble_eq_true rfl, Nat.le_of_ble_eq_true rfl⟩ (fun r462 hi463 h464 hp465 => ?_)
      obtain ⟨rfl, ⟨vw466, s_h464, j_h464, k_h464⟩, i1_h464, i2_h464, f_h464⟩ := hp465
      have m_h464 : hi + 1 ≤ vw466 := by omega
      clear j_h464
      have x468 : h464 aa = some (.inl (z 1, 1, .inl ((upd g0 (0 : Int32).toNatClampNeg (nI (pos + 1)))))) := (f_h464 _ (by omega) (by omega) (by omega)).trans x457
      have sv469 : StV kr kv h464 ls lv := sv458.kept (f_h464 _ (by omega) (by omega) (by omega))
      have sv470 : StV kr kv h464 (kr 6) (kv 6) := sv460.kept (f_h464 _ (by omega) (by omega) (by omega))
      have by471 : ByA z kv h464 lv (lps k) := by459.kept (f_h464 _ (by omega) (by omega) (by omega))
      have by472 : ByA z kv h464 (kv 6) (kT 6) := by461.kept (f_h464 _ (by omega) (by omega) (by omega))
      obtain ⟨tt467, e_tt467⟩ : ∃ u9 : List Nat, u9 = ([] : List Nat) ++ kT 6 := ⟨_, rfl⟩
      have l_tt467 : tt467.length = ([] : List Nat).length + (kT 6).length := by rw [e_tt467, List.length_append]
      rw [← e_tt467] at s_h464
      refine ax_aload_n hC 1 dL_made_243 rfl rfl ?_
      refine ax_aload_n hC 2 dL_made_244 rfl rfl ?_
      refine ax_iload_n hC 3 dL_made_245 rfl rfl ?_
      refine ax_iconst (v := 1) hC dL_made_246 (by decide) ?_
      refine ax_isub hC dL_made_247 ?_
      refine ax_eqi (y := 1) (by decide) ?_
      refine ax_aload_n hC 4 dL_made_248 rfl rfl ?_
      refine ax_iload hC 5 dL_made_249 rfl ?_
      refine ax_sSq (mc := 120) (ms := 26000) (st := [.ref hi]) hC hX [.ref (kr 19), .ref aa, .int 1, .ref ls, .int 1] (c_L_made_11 l D z B lo _ _ kr kv aa (pos + 1) k fn ls lv _ x468 g_h1 (by omega) sv469 by471 (by omega) (by omega) (by omega) (by omega) (by omega) (by omega)) (va_cwS 5 hC.1.2.2.2.2 gL_made_L_made rfl rfl rfl (by decide +kernel) ⟨Nat.le_of_ble_eq_true rfl, Nat.le_of_ble_eq_true rfl⟩) rfl rfl (Nat.le_of_ble_eq_true rfl) dL_made_251 ⟨Nat.le_of_ble_eq_true rfl, Nat.le_of_ble_eq_true rfl⟩ (fun r473 hi474 h475 hp476 => ?_)
      obtain ⟨q_sq477, v_sq477, rfl, s_h475, y_h475, ⟨g_h475, a_h475, z_h475⟩, d1_h475, d2_h475, d3_h475, d4_h475, d5_h475, d6_h475, d7_h475, o1_h475, o2_h475, f_h475⟩ := hp476
      have nb480 : q_sq477 ≠ hi := by omega
      have nb481 : v_sq477 ≠ hi := by omega
      clear o1_h475 o2_h475
      obtain ⟨tt478, e_tt478⟩ : ∃ u9 : List Nat, u9 = txt fn true k (mkT (cnV kv) 1 k (pos + 1)).1 := ⟨_, rfl⟩
      obtain ⟨pp479, e_pp479⟩ : ∃ u9 : Nat, u9 = (mkT (cnV kv) 1 k (pos + 1)).2 := ⟨_, rfl⟩
      rw [← e_tt478] at y_h475 d5_h475
      rw [← e_pp479] at z_h475 d6_h475
      have sv482 : StV kr kv h475 ls lv := sv469.kept (f_h475 _ (by omega) (by omega))
      have sv483 : StV kr kv h475 (kr 6) (kv 6) := sv470.kept (f_h475 _ (by omega) (by omega))
      have by484 : ByA z kv h475 lv (lps k) := by471.kept (f_h475 _ (by omega) (by omega))
      have by485 : ByA z kv h475 (kv 6) (kT 6) := by472.kept (f_h475 _ (by omega) (by omega))
      have sb486 : SbA z h475 hi vw466 tt467 := s_h464.kept (f_h475 _ (by omega) (by omega)) (f_h475 _ (by omega) (by omega))
      refine ax_sVq (mc := 1) (ms := 256) (st := []) hC hX [.ref q_sq477] (sb486.rc hC) (c_J4_append_15ec4 l D z B lo _ _ kr kv hi vw466 tt467 q_sq477 v_sq477 tt478 sb486 s_h475 y_h475 (by omega) (by omega) (by omega) (by omega) (by omega) (by omega)) (cwV 1 hC.1.2.2.2.2 gL_made_J4_append_15ec4 rfl rfl rfl (by decide +kernel) ⟨Nat.le_of_ble_eq_true rfl, Nat.le_of_ble_eq_true rfl⟩) rfl rfl (Nat.le_of_ble_eq_true rfl) dL_made_254 ⟨Nat.le_of_ble_eq_true rfl, Nat.le_of_ble_eq_true rfl⟩ (fun r487 hi488 h489 hp490 => ?_)
      obtain ⟨rfl, ⟨vw491, s_h489, j_h489, k_h489⟩, i1_h489, i2_h489, f_h489⟩ := hp490
      have m_h489 : hi + 1 ≤ vw491 := by omega
      clear j_h489
      clear d1_h475 d2_h475 d3_h475 d4_h475 nb480 nb481
      have x493 : h489 aa = some (.inl (z 1, 1, .inl (g_h475))) := (f_h489 _ (by omega) (by omega) (by omega)).trans a_h475
      have sv494 : StV kr kv h489 ls lv := sv482.kept (f_h489 _ (by omega) (by omega) (by omega))
      have sv495 : StV kr kv h489 (kr 6) (kv 6) := sv483.kept (f_h489 _ (by omega) (by omega) (by omega))
      have by496 : ByA z kv h489 lv (lps k) := by484.kept (f_h489 _ (by omega) (by omega) (by omega))
      have by497 : ByA z kv h489 (kv 6) (kT 6) := by485.kept (f_h489 _ (by omega) (by omega) (by omega))
      obtain ⟨tt492, e_tt492⟩ : ∃ u9 : List Nat, u9 = tt467 ++ tt478 := ⟨_, rfl⟩
      have l_tt492 : tt492.length = tt467.length + tt478.length := by rw [e_tt492, List.length_append]
      rw [← e_tt492] at s_h489
      refine ax_ldcS hC hX 7 (by decide) rfl dL_made_257 ?_
      have sv498 : StV kr kv h489 (kr 7) (kv 7) := Or.inr ⟨7, by decide, rfl, rfl⟩
      have by499 : ByA z kv h489 (kv 7) (kT 7) := Or.inr ⟨7, by decide, rfl, rfl⟩
      have lt_7 := hX.lt (i := 7) (by decide)
      have lk_7 : (kT 7).length = 3 := by decide
      refine ax_sVq (mc := 1) (ms := 256) (st := []) hC hX [.ref (kr 7)] (s_h489.rc hC) (c_J4_append_15ec4 l D z B lo _ _ kr kv hi vw491 tt492 (kr 7) (kv 7) (kT 7) s_h489 sv498 by499 (by omega) (by omega) (by omega) (by omega) (by omega) (by omega)) (cwV 1 hC.1.2.2.2.2 gL_made_J4_append_15ec4 rfl rfl rfl (by decide +kernel) ⟨Nat.le_of_ble_eq_true rfl, Nat.le_of_ble_eq_true rfl⟩) rfl rfl (Nat.le_of_ble_eq_true rfl) dL_made_259 ⟨Nat.le_of_ble_eq_true rfl, Nat.le_of_ble_eq_true rfl⟩ (fun r500 hi501 h502 hp503 => ?_)
      obtain ⟨rfl, ⟨vw504, s_h502, j_h502, k_h502⟩, i1_h502, i2_h502, f_h502⟩ := hp503
      have m_h502 : hi + 1 ≤ vw504 := by omega
      clear j_h502
      have x506 : h502 aa = some (.inl (z 1, 1, .inl (g_h475))) := (f_h502 _ (by omega) (by omega) (by omega)).trans x493
      have sv507 : StV kr kv h502 ls lv := sv494.kept (f_h502 _ (by omega) (by omega) (by omega))
      have sv508 : StV kr kv h502 (kr 6) (kv 6) := sv495.kept (f_h502 _ (by omega) (by omega) (by omega))
      have sv509 : StV kr kv h502 (kr 7) (kv 7) := sv498.kept (f_h502 _ (by omega) (by omega) (by omega))
      have by510 : ByA z kv h502 lv (lps k) := by496.kept (f_h502 _ (by omega) (by omega) (by omega))
      have by511 : ByA z kv h502 (kv 6) (kT 6) := by497.kept (f_h502 _ (by omega) (by omega) (by omega))
      have by512 : ByA z kv h502 (kv 7) (kT 7) := by499.kept (f_h502 _ (by omega) (by omega) (by omega))
      obtain ⟨tt505, e_tt505⟩ : ∃ u9 : List Nat, u9 = tt492 ++ kT 7 := ⟨_, rfl⟩
      have l_tt505 : tt505.length = tt492.length + (kT 7).length := by rw [e_tt505, List.length_append]
      rw [← e_tt505] at s_h502
      refine ax_aload_n hC 1 dL_made_262 rfl rfl ?_
      refine ax_aload_n hC 2 dL_made_263 rfl rfl ?_
      refine ax_iload_n hC 3 dL_made_264 rfl rfl ?_
      refine ax_iconst (v := 1) hC dL_made_265 (by decide) ?_
      refine ax_isub hC dL_made_266 ?_
      refine ax_eqi (y := 1) (by decide) ?_
      refine ax_aload_n hC 4 dL_made_267 rfl rfl ?_
      refine ax_iload hC 5 dL_made_268 rfl ?_
      refine ax_sSq (mc := 120) (ms := 26000) (st := [.ref hi]) hC hX [.ref (kr 19), .ref aa, .int 1, .ref ls, .int 1] (c_L_made_11 l D z B lo _ _ kr kv aa pp479 k fn ls lv _ x506 z_h475 (by omega) sv507 by510 (by omega) (by omega) (by omega) (by omega) (by omega) (by omega)) (va_cwS 5 hC.1.2.2.2.2 gL_made_L_made rfl rfl rfl (by decide +kernel) ⟨Nat.le_of_ble_eq_true rfl, Nat.le_of_ble_eq_true rfl⟩) rfl rfl (Nat.le_of_ble_eq_true rfl) dL_made_270 ⟨Nat.le_of_ble_eq_true rfl, Nat.le_of_ble_eq_true rfl⟩ (fun r513 hi514 h515 hp516 => ?_)
      obtain ⟨q_sq517, v_sq517, rfl, s_h515, y_h515, ⟨g_h515, a_h515, z_h515⟩, d1_h515, d2_h515, d3_h515, d4_h515, d5_h515, d6_h515, d7_h515, o1_h515, o2_h515, f_h515⟩ := hp516
      have nb520 : q_sq517 ≠ hi := by omega
      have nb521 : v_sq517 ≠ hi := by omega
      clear o1_h515 o2_h515
      obtain ⟨tt518, e_tt518⟩ : ∃ u9 : List Nat, u9 = txt fn true k (mkT (cnV kv) 1 k pp479).1 := ⟨_, rfl⟩
      obtain ⟨pp519, e_pp519⟩ : ∃ u9 : Nat, u9 = (mkT (cnV kv) 1 k pp479).2 := ⟨_, rfl⟩
      rw [← e_tt518] at y_h515 d5_h515
      rw [← e_pp519] at z_h515 d6_h515
      have sv522 : StV kr kv h515 ls lv := sv507.kept (f_h515 _ (by omega) (by omega))
      have sv523 : StV kr kv h515 (kr 6) (kv 6) := sv508.kept (f_h515 _ (by omega) (by omega))
      have sv524 : StV kr kv h515 (kr 7) (kv 7) := sv509.kept (f_h515 _ (by omega) (by omega))
      have by525 : ByA z kv h515 lv (lps k) := by510.kept (f_h515 _ (by omega) (by omega))
      have by526 : ByA z kv h515 (kv 6) (kT 6) := by511.kept (f_h515 _ (by omega) (by omega))
      have by527 : ByA z kv h515 (kv 7) (kT 7) := by512.kept (f_h515 _ (by omega) (by omega))
      have sb528 : SbA z h515 hi vw504 tt505 := s_h502.kept (f_h515 _ (by omega) (by omega)) (f_h515 _ (by omega) (by omega))
      refine ax_sVq (mc := 1) (ms := 256) (st := []) hC hX [.ref q_sq517] (sb528.rc hC) (c_J4_append_15ec4 l D z B lo _ _ kr kv hi vw504 tt505 q_sq517 v_sq517 tt518 sb528 s_h515 y_h515 (by omega) (by omega) (by omega) (by omega) (by omega) (by omega)) (cwV 1 hC.1.2.2.2.2 gL_made_J4_append_15ec4 rfl rfl rfl (by decide +kernel) ⟨Nat.le_of_ble_eq_true rfl, Nat.le_of_ble_eq_true rfl⟩) rfl rfl (Nat.le_of_ble_eq_true rfl) dL_made_273 ⟨Nat.le_of_ble_eq_true rfl, Nat.le_of_ble_eq_true rfl⟩ (fun r529 hi530 h531 hp532 => ?_)
      obtain ⟨rfl, ⟨vw533, s_h531, j_h531, k_h531⟩, i1_h531, i2_h531, f_h531⟩ := hp532
      have m_h531 : hi + 1 ≤ vw533 := by omega
      clear j_h531
      clear d1_h515 d2_h515 d3_h515 d4_h515 nb520 nb521
      have x535 : h531 aa = some (.inl (z 1, 1, .inl (g_h515))) := (f_h531 _ (by omega) (by omega) (by omega)).trans a_h515
      have sv536 : StV kr kv h531 ls lv := sv522.kept (f_h531 _ (by omega) (by omega) (by omega))
      have sv537 : StV kr kv h531 (kr 6) (kv 6) := sv523.kept (f_h531 _ (by omega) (by omega) (by omega))
      have sv538 : StV kr kv h531 (kr 7) (kv 7) := sv524.kept (f_h531 _ (by omega) (by omega) (by omega))
      have by539 : ByA z kv h531 lv (lps k) := by525.kept (f_h531 _ (by omega) (by omega) (by omega))
      have by540 : ByA z kv h531 (kv 6) (kT 6) := by526.kept (f_h531 _ (by omega) (by omega) (by omega))
      have by541 : ByA z kv h531 (kv 7) (kT 7) := by527.kept (f_h531 _ (by omega) (by omega) (by omega))
      obtain ⟨tt534, e_tt534⟩ : ∃ u9 : List Nat, u9 = tt505 ++ tt518 := ⟨_, rfl⟩
      have l_tt534 : tt534.length = tt505.length + tt518.length := by rw [e_tt534, List.length_append]
      rw [← e_tt534] at s_h531
      refine ax_iload hC 5 dL_made_276 rfl ?_
      refine ax_if_eq (tgt := 286) hC dL_made_278 (by decide) (fun c542 => ?_) (fun c542 => ?_)
      · exact absurd c542 (by decide)
      · refine ax_ldcS hC hX 8 (by decide) rfl dL_made_281 ?_
        refine ax_goto (tgt := 288) hC dL_made_283 (by decide) ?_
        have sv543 : StV kr kv h531 (kr 8) (kv 8) := Or.inr ⟨8, by decide, rfl, rfl⟩
        have by544 : ByA z kv h531 (kv 8) (kT 8) := Or.inr ⟨8, by decide, rfl, rfl⟩
        have lt_8 := hX.lt (i := 8) (by decide)
        have lk_8 : (kT 8).length = 5 := by decide
        refine ax_sVq (mc := 1) (ms := 256) (st := []) hC hX [.ref (kr 8)] (s_h531.rc hC) (c_J4_append_15ec4 l D z B lo _ _ kr kv hi vw533 tt534 (kr 8) (kv 8) (kT 8) s_h531 sv543 by544 (by omega) (by omega) (by omega) (by omega) (by omega) (by omega)) (cwV 1 hC.1.2.2.2.2 gL_made_J4_append_15ec4 rfl rfl rfl (by decide +kernel) ⟨Nat.le_of_ble_eq_true rfl, Nat.le_of_ble_eq_true rfl⟩) rfl rfl (Nat.le_of_ble_eq_true rfl) dL_made_288 ⟨Nat.le_of_ble_eq_true rfl, Nat.le_of_ble_eq_true rfl⟩ (fun r545 hi546 h547 hp548 => ?_)
        obtain ⟨rfl, ⟨vw549, s_h547, j_h547, k_h547⟩, i1_h547, i2_h547, f_h547⟩ := hp548
        have m_h547 : hi + 1 ≤ vw549 := by omega
        clear j_h547
        have x551 : h547 aa = some (.inl (z 1, 1, .inl (g_h515))) := (f_h547 _ (by omega) (by omega) (by omega)).trans x535
        have sv552 : StV kr kv h547 ls lv := sv536.kept (f_h547 _ (by omega) (by omega) (by omega))
        have sv553 : StV kr kv h547 (kr 6) (kv 6) := sv537.kept (f_h547 _ (by omega) (by omega) (by omega))
        have sv554 : StV kr kv h547 (kr 7) (kv 7) := sv538.kept (f_h547 _ (by omega) (by omega) (by omega))
        have sv555 : StV kr kv h547 (kr 8) (kv 8) := sv543.kept (f_h547 _ (by omega) (by omega) (by omega))
        have by556 : ByA z kv h547 lv (lps k) := by539.kept (f_h547 _ (by omega) (by omega) (by omega))
        have by557 : ByA z kv h547 (kv 6) (kT 6) := by540.kept (f_h547 _ (by omega) (by omega) (by omega))
        have by558 : ByA z kv h547 (kv 7) (kT 7) := by541.kept (f_h547 _ (by omega) (by omega) (by omega))
        have by559 : ByA z kv h547 (kv 8) (kT 8) := by544.kept (f_h547 _ (by omega) (by omega) (by omega))
        obtain ⟨tt550, e_tt550⟩ : ∃ u9 : List Nat, u9 = tt534 ++ kT 8 := ⟨_, rfl⟩
        have l_tt550 : tt550.length = tt534.length + (kT 8).length := by rw [e_tt550, List.length_append]
        rw [← e_tt550] at s_h547
        refine ax_sVq (mc := 2) (ms := 114) (st := []) hC hX [] (s_h547.rc hC) (c_J4_toString_0e30d l D z B lo _ _ kr kv hi vw549 tt550 s_h547 (by omega)) (cwV 0 hC.1.2.2.2.2 gL_made_J4_toString_0e30d rfl rfl rfl (by decide +kernel) ⟨Nat.le_of_ble_eq_true rfl, Nat.le_of_ble_eq_true rfl⟩) rfl rfl (Nat.le_of_ble_eq_true rfl) dL_made_291 ⟨Nat.le_of_ble_eq_true rfl, Nat.le_of_ble_eq_true rfl⟩ (fun r560 hi561 h562 hp563 => ?_)
        obtain ⟨rfl, s_h562, y_h562, i_h562, f_h562⟩ := hp563
        have x565 : h562 aa = some (.inl (z 1, 1, .inl (g_h515))) := (f_h562 _ (by omega)).trans x551
        have sv566 : StV kr kv h562 ls lv := sv552.kept (f_h562 _ (by omega))
        have sv567 : StV kr kv h562 (kr 6) (kv 6) := sv553.kept (f_h562 _ (by omega))
        have sv568 : StV kr kv h562 (kr 7) (kv 7) := sv554.kept (f_h562 _ (by omega))
        have sv569 : StV kr kv h562 (kr 8) (kv 8) := sv555.kept (f_h562 _ (by omega))
        have by570 : ByA z kv h562 lv (lps k) := by556.kept (f_h562 _ (by omega))
        have by571 : ByA z kv h562 (kv 6) (kT 6) := by557.kept (f_h562 _ (by omega))
        have by572 : ByA z kv h562 (kv 7) (kT 7) := by558.kept (f_h562 _ (by omega))
        have by573 : ByA z kv h562 (kv 8) (kT 8) := by559.kept (f_h562 _ (by omega))
        refine ax_widen (k := 300) (n := 64000) (by omega) (by omega) ?_
        refine ax_aret hC (some hi546) hr hlocks dL_made_294 ?_
        have ex574 := mk_ch (cn := cnV kv) (n := 1) (k := k) (a := pos) (f := fn) (w := true) k9
        have tex574 : txt (fn + 1) true k (mkT (cnV kv) 2 k pos).1 = tt550 := by
          refine ex574.2.trans ?_
          subst e_tt550; subst e_tt534; subst e_tt518; subst e_tt505; subst e_tt492; subst e_tt478; subst e_tt467
          subst e_pp519; subst e_pp479
          first | rfl | (simp only [List.nil_append, List.append_assoc]; rfl)
        have pex574 : (mkT (cnV kv) 2 k pos).2 = pp519 := by
          refine ex574.1.trans ?_
          subst e_pp519; subst e_pp479
          rfl
        rw [tex574, pex574]
        exact ⟨_, _, rfl, s_h562, y_h562, ⟨_, x565, z_h515⟩, by omega, by omega, by omega, by omega, by omega, by omega, by omega, by omega, by omega, fun q hq hq2 => ((f_h562 q (by omega)).trans ((f_h547 q (by omega) (by omega) (by omega)).trans ((f_h531 q (by omega) (by omega) (by omega)).trans ((f_h515 q (by omega) (by omega)).trans ((f_h502 q (by omega) (by omega) (by omega)).trans ((f_h489 q (by omega) (by omega) (by omega)).trans ((f_h475 q (by omega) (by omega)).trans ((f_h464 q (by omega) (by omega) (by omega)).trans ((f_h455 q (by omega) (by omega)).trans ((f450 q (by omega)).trans (f3 q (by omega))))))))))))⟩
    by_cases s575 : (nI (cnV kv pos % 9)) = 6
    · refine ax_tableIn (tgt := 295) (off := 220) hC dL_made_75 (by rw [s575]; decide) (by rw [s575]; decide) (by rw [s575]; decide) (by decide) ?_
      have k9 : cnV kv pos % 9 = 6 := by have u_s9 : ¬ cnV kv pos % 9 = 0 := fun e => s9 (by rw [e]; rfl); have u_s13 : ¬ cnV kv pos % 9 = 1 := fun e => s13 (by rw [e]; rfl); have u_s122 : ¬ cnV kv pos % 9 = 2 := fun e => s122 (by rw [e]; rfl); have u_s231 : ¬ cnV kv pos % 9 = 3 := fun e => s231 (by rw [e]; rfl); have u_s339 : ¬ cnV kv pos % 9 = 4 := fun e => s339 (by rw [e]; rfl); have u_s447 : ¬ cnV kv pos % 9 = 5 := fun e => s447 (by rw [e]; rfl); have u_s575 : cnV kv pos % 9 = 6 := (nI_eq (b := 6) (by omega) (by decide)).mp s575; omega
      refine ax_new (C := RJ4) (T := TJ4) (N := 4) (ci := 1) (fs := [.null, .int 0, .int 0, .int 0]) hC tyJ4 iJ4 tyJ4_ok (by decide +kernel) (by decide +kernel) (by decide +kernel) rfl (fun j hj => by rcases (show j = 0 ∨ j = 1 ∨ j = 2 ∨ j = 3 by omega) with rfl | rfl | rfl | rfl <;> rfl) (Nat.le_of_ble_eq_true rfl) (Nat.le_of_ble_eq_true rfl) dL_made_295 (fun h576 e577 f578 => ?_)
      have e577 : h576 hi = some (.inr (1, [.null, .int 0, .int 0, .int 0])) := e577
      have x579 : h576 aa = some (.inl (z 1, 1, .inl ((upd g0 (0 : Int32).toNatClampNeg (nI (pos + 1)))))) := (f578 _ (by omega)).trans e2
      have sv580 : StV kr kv h576 ls lv := sv4.kept (f578 _ (by omega))
      have by581 : ByA z kv h576 lv (lps k) := by5.kept (f578 _ (by omega))
      refine ax_dup hC dL_made_298 rfl ?_
      refine ax_sIv (mc := 1) (ms := 16) (st := [.ref hi]) hC hX [] (c_J4_init_da8c8 l D z B lo _ _ kr kv hi e577) (cwI 0 hC.1.2.2.2.2 gL_made_J4_init_da8c8 rfl rfl rfl (hC.1.2.2.2.2 _ (by decide +kernel)) (hC.1.2.2.2.2 _ (by decide +kernel)) (hC.1.2.2.2.2 _ (by decide +kernel)) rfl (by decide +kernel) ⟨Nat.le_of_ble_eq_true rfl, Nat.le_of_ble_eq_true rfl⟩) rfl rfl (Nat.le_of_ble_eq_true rfl) dL_made_299 ⟨Nat.le_of_ble_eq_true rfl, Nat.le_of_ble_eq_true rfl⟩ (fun hi582 h583 hp584 => ?_)
      obtain ⟨i_h583, b_h583, v_h583, f_h583⟩ := hp584
      have j_h583 : hi582 = hi + 1 + 1 := i_h583
      have x585 : h583 aa = some (.inl (z 1, 1, .inl ((upd g0 (0 : Int32).toNatClampNeg (nI (pos + 1)))))) := (f_h583 _ (by omega) (by omega)).trans x579
      have sv586 : StV kr kv h583 ls lv := sv580.kept (f_h583 _ (by omega) (by omega))
      have by587 : ByA z kv h583 lv (lps k) := by581.kept (f_h583 _ (by omega) (by omega))
      have s_h583 : SbA z h583 hi (hi + 1) [] := SbA.born b_h583 v_h583
      refine ax_ldcS hC hX 10 (by decide) rfl dL_made_302 ?_
      have sv588 : StV kr kv h583 (kr 10) (kv 10) := Or.inr ⟨10, by decide, rfl, rfl⟩
      have by589 : ByA z kv h583 (kv 10) (kT 10) := Or.inr ⟨10, by decide, rfl, rfl⟩
      have lt_10 := hX.lt (i := 10) (by decide)
      have lk_10 : (kT 10).length = 4 := by decide
      have ln0 : ([] : List Nat).length = 0 := rfl
      refine ax_sVq (mc := 1) (ms := 256) (st := []) hC hX [.ref (kr 10)] (s_h583.rc hC) (c_J4_append_15ec4 l D z B lo _ _ kr kv hi (hi + 1) ([] : List Nat) (kr 10) (kv 10) (kT 10) s_h583 sv588 by589 (by omega) (by omega) (by omega) (by omega) (by omega) (by omega)) (cwV 1 hC.1.2.2.2.2 gL_made_J4_append_15ec4 rfl rfl rfl (by decide +kernel) ⟨Nat.le_of_ble_eq_true rfl, Nat.le_of_ble_eq_true rfl⟩) rfl rfl (Nat.le_of_ble_eq_true rfl) dL_made_304 ⟨Nat.le_of_ble_eq_true rfl, Nat.le_of_ble_eq_true rfl⟩ (fun r590 hi591 h592 hp593 => ?_)
      obtain ⟨rfl, ⟨vw594, s_h592, j_h592, k_h592⟩, i1_h592, i2_h592, f_h592⟩ := hp593
      have m_h592 : hi + 1 ≤ vw594 := by omega
      clear j_h592
      have x596 : h592 aa = some (.inl (z 1, 1, .inl ((upd g0 (0 : Int32).toNatClampNeg (nI (pos + 1)))))) := (f_h592 _ (by omega) (by omega) (by omega)).trans x585
      have sv597 : StV kr kv h592 ls lv := sv586.kept (f_h592 _ (by omega) (by omega) (by omega))
      have sv598 : StV kr kv h592 (kr 10) (kv 10) := sv588.kept (f_h592 _ (by omega) (by omega) (by omega))
      have by599 : ByA z kv h592 lv (lps k) := by587.kept (f_h592 _ (by omega) (by omega) (by omega))
      have by600 : ByA z kv h592 (kv 10) (kT 10) := by589.kept (f_h592 _ (by omega) (by omega) (by omega))
      obtain ⟨tt595, e_tt595⟩ : ∃ u9 : List Nat, u9 = ([] : List Nat) ++ kT 10 := ⟨_, rfl⟩
      have l_tt595 : tt595.length = ([] : List Nat).length + (kT 10).length := by rw [e_tt595, List.length_append]
      rw [← e_tt595] at s_h592
      refine ax_aload_n hC 1 dL_made_307 rfl rfl ?_
      refine ax_aload_n hC 2 dL_made_308 rfl rfl ?_
      refine ax_iload_n hC 3 dL_made_309 rfl rfl ?_
      refine ax_iconst (v := 1) hC dL_made_310 (by decide) ?_
      refine ax_isub hC dL_made_311 ?_
      refine ax_eqi (y := 1) (by decide) ?_
      refine ax_aload_n hC 4 dL_made_312 rfl rfl ?_
      refine ax_iload hC 5 dL_made_313 rfl ?_
      refine ax_sSq (mc := 120) (ms := 26000) (st := [.ref hi]) hC hX [.ref (kr 19), .ref aa, .int 1, .ref ls, .int 1] (c_L_made_11 l D z B lo _ _ kr kv aa (pos + 1) k fn ls lv _ x596 g_h1 (by omega) sv597 by599 (by omega) (by omega) (by omega) (by omega) (by omega) (by omega)) (va_cwS 5 hC.1.2.2.2.2 gL_made_L_made rfl rfl rfl (by decide +kernel) ⟨Nat.le_of_ble_eq_true rfl, Nat.le_of_ble_eq_true rfl⟩) rfl rfl (Nat.le_of_ble_eq_true rfl) dL_made_315 ⟨Nat.le_of_ble_eq_true rfl, Nat.le_of_ble_eq_true rfl⟩ (fun r601 hi602 h603 hp604 => ?_)
      obtain ⟨q_sq605, v_sq605, rfl, s_h603, y_h603, ⟨g_h603, a_h603, z_h603⟩, d1_h603, d2_h603, d3_h603, d4_h603, d5_h603, d6_h603, d7_h603, o1_h603, o2_h603, f_h603⟩ := hp604
      have nb608 : q_sq605 ≠ hi := by omega
      have nb609 : v_sq605 ≠ hi := by omega
      clear o1_h603 o2_h603
      obtain ⟨tt606, e_tt606⟩ : ∃ u9 : List Nat, u9 = txt fn true k (mkT (cnV kv) 1 k (pos + 1)).1 := ⟨_, rfl⟩
      obtain ⟨pp607, e_pp607⟩ : ∃ u9 : Nat, u9 = (mkT (cnV kv) 1 k (pos + 1)).2 := ⟨_, rfl⟩
      rw [← e_tt606] at y_h603 d5_h603
      rw [← e_pp607] at z_h603 d6_h603
      have sv610 : StV kr kv h603 ls lv := sv597.kept (f_h603 _ (by omega) (by omega))
      have sv611 : StV kr kv h603 (kr 10) (kv 10) := sv598.kept (f_h603 _ (by omega) (by omega))
      have by612 : ByA z kv h603 lv (lps k) := by599.kept (f_h603 _ (by omega) (by omega))
      have by613 : ByA z kv h603 (kv 10) (kT 10) := by600.kept (f_h603 _ (by omega) (by omega))
      have sb614 : SbA z h603 hi vw594 tt595 := s_h592.kept (f_h603 _ (by omega) (by omega)) (f_h603 _ (by omega) (by omega))
      refine ax_sVq (mc := 1) (ms := 256) (st := []) hC hX [.ref q_sq605] (sb614.rc hC) (c_J4_append_15ec4 l D z B lo _ _ kr kv hi vw594 tt595 q_sq605 v_sq605 tt606 sb614 s_h603 y_h603 (by omega) (by omega) (by omega) (by omega) (by omega) (by omega)) (cwV 1 hC.1.2.2.2.2 gL_made_J4_append_15ec4 rfl rfl rfl (by decide +kernel) ⟨Nat.le_of_ble_eq_true rfl, Nat.le_of_ble_eq_true rfl⟩) rfl rfl (Nat.le_of_ble_eq_true rfl) dL_made_318 ⟨Nat.le_of_ble_eq_true rfl, Nat.le_of_ble_eq_true rfl⟩ (fun r615 hi616 h617 hp618 => ?_)
      obtain ⟨rfl, ⟨vw619, s_h617, j_h617, k_h617⟩, i1_h617, i2_h617, f_h617⟩ := hp618
      have m_h617 : hi + 1 ≤ vw619 := by omega
      clear j_h617
      clear d1_h603 d2_h603 d3_h603 d4_h603 nb608 nb609
      have x621 : h617 aa = some (.inl (z 1, 1, .inl (g_h603))) := (f_h617 _ (by omega) (by omega) (by omega)).trans a_h603
      have sv622 : StV kr kv h617 ls lv := sv610.kept (f_h617 _ (by omega) (by omega) (by omega))
      have sv623 : StV kr kv h617 (kr 10) (kv 10) := sv611.kept (f_h617 _ (by omega) (by omega) (by omega))
      have by624 : ByA z kv h617 lv (lps k) := by612.kept (f_h617 _ (by omega) (by omega) (by omega))
      have by625 : ByA z kv h617 (kv 10) (kT 10) := by613.kept (f_h617 _ (by omega) (by omega) (by omega))
      obtain ⟨tt620, e_tt620⟩ : ∃ u9 : List Nat, u9 = tt595 ++ tt606 := ⟨_, rfl⟩
      have l_tt620 : tt620.length = tt595.length + tt606.length := by rw [e_tt620, List.length_append]
      rw [← e_tt620] at s_h617
      refine ax_ldcS hC hX 7 (by decide) rfl dL_made_321 ?_
      have sv626 : StV kr kv h617 (kr 7) (kv 7) := Or.inr ⟨7, by decide, rfl, rfl⟩
      have by627 : ByA z kv h617 (kv 7) (kT 7) := Or.inr ⟨7, by decide, rfl, rfl⟩
      have lt_7 := hX.lt (i := 7) (by decide)
      have lk_7 : (kT 7).length = 3 := by decide
      refine ax_sVq (mc := 1) (ms := 256) (st := []) hC hX [.ref (kr 7)] (s_h617.rc hC) (c_J4_append_15ec4 l D z B lo _ _ kr kv hi vw619 tt620 (kr 7) (kv 7) (kT 7) s_h617 sv626 by627 (by omega) (by omega) (by omega) (by omega) (by omega) (by omega)) (cwV 1 hC.1.2.2.2.2 gL_made_J4_append_15ec4 rfl rfl rfl (by decide +kernel) ⟨Nat.le_of_ble_eq_true rfl, Nat.le_of_ble_eq_true rfl⟩) rfl rfl (Nat.le_of_ble_eq_true rfl) dL_made_323 ⟨Nat.le_of_ble_eq_true rfl, Nat.le_of_ble_eq_true rfl⟩ (fun r628 hi629 h630 hp631 => ?_)
      obtain ⟨rfl, ⟨vw632, s_h630, j_h630, k_h630⟩, i1_h630, i2_h630, f_h630⟩ := hp631
      have m_h630 : hi + 1 ≤ vw632 := by omega
      clear j_h630
      have x634 : h630 aa = some (.inl (z 1, 1, .inl (g_h603))) := (f_h630 _ (by omega) (by omega) (by omega)).trans x621
      have sv635 : StV kr kv h630 ls lv := sv622.kept (f_h630 _ (by omega) (by omega) (by omega))
      have sv636 : StV kr kv h630 (kr 10) (kv 10) := sv623.kept (f_h630 _ (by omega) (by omega) (by omega))
      have sv637 : StV kr kv h630 (kr 7) (kv 7) := sv626.kept (f_h630 _ (by omega) (by omega) (by omega))
      have by638 : ByA z kv h630 lv (lps k) := by624.kept (f_h630 _ (by omega) (by omega) (by omega))
      have by639 : ByA z kv h630 (kv 10) (kT 10) := by625.kept (f_h630 _ (by omega) (by omega) (by omega))
      have by640 : ByA z kv h630 (kv 7) (kT 7) := by627.kept (f_h630 _ (by omega) (by omega) (by omega))
      obtain ⟨tt633, e_tt633⟩ : ∃ u9 : List Nat, u9 = tt620 ++ kT 7 := ⟨_, rfl⟩
      have l_tt633 : tt633.length = tt620.length + (kT 7).length := by rw [e_tt633, List.length_append]
      rw [← e_tt633] at s_h630
      refine ax_aload_n hC 1 dL_made_326 rfl rfl ?_
      refine ax_aload_n hC 2 dL_made_327 rfl rfl ?_
      refine ax_iload_n hC 3 dL_made_328 rfl rfl ?_
      refine ax_iconst (v := 1) hC dL_made_329 (by decide) ?_
      refine ax_isub hC dL_made_330 ?_
      refine ax_eqi (y := 1) (by decide) ?_
      refine ax_aload_n hC 4 dL_made_331 rfl rfl ?_
      refine ax_iload hC 5 dL_made_332 rfl ?_
      refine ax_sSq (mc := 120) (ms := 26000) (st := [.ref hi]) hC hX [.ref (kr 19), .ref aa, .int 1, .ref ls, .int 1] (c_L_made_11 l D z B lo _ _ kr kv aa pp607 k fn ls lv _ x634 z_h603 (by omega) sv635 by638 (by omega) (by omega) (by omega) (by omega) (by omega) (by omega)) (va_cwS 5 hC.1.2.2.2.2 gL_made_L_made rfl rfl rfl (by decide +kernel) ⟨Nat.le_of_ble_eq_true rfl, Nat.le_of_ble_eq_true rfl⟩) rfl rfl (Nat.le_of_ble_eq_true rfl) dL_made_334 ⟨Nat.le_of_ble_eq_true rfl, Nat.le_of_ble_eq_true rfl⟩ (fun r641 hi642 h643 hp644 => ?_)
      obtain ⟨q_sq645, v_sq645, rfl, s_h643, y_h643, ⟨g_h643, a_h643, z_h643⟩, d1_h643, d2_h643, d3_h643, d4_h643, d5_h643, d6_h643, d7_h643, o1_h643, o2_h643, f_h643⟩ := hp644
      have nb648 : q_sq645 ≠ hi := by omega
      have nb649 : v_sq645 ≠ hi := by omega
      clear o1_h643 o2_h643
      obtain ⟨tt646, e_tt646⟩ : ∃ u9 : List Nat, u9 = txt fn true k (mkT (cnV kv) 1 k pp607).1 := ⟨_, rfl⟩
      obtain ⟨pp647, e_pp647⟩ : ∃ u9 : Nat, u9 = (mkT (cnV kv) 1 k pp607).2 := ⟨_, rfl⟩
      rw [← e_tt646] at y_h643 d5_h643
      rw [← e_pp647] at z_h643 d6_h643
      have sv650 : StV kr kv h643 ls lv := sv635.kept (f_h643 _ (by omega) (by omega))
      have sv651 : StV kr kv h643 (kr 10) (kv 10) := sv636.kept (f_h643 _ (by omega) (by omega))
      have sv652 : StV kr kv h643 (kr 7) (kv 7) := sv637.kept (f_h643 _ (by omega) (by omega))
      have by653 : ByA z kv h643 lv (lps k) := by638.kept (f_h643 _ (by omega) (by omega))
      have by654 : ByA z kv h643 (kv 10) (kT 10) := by639.kept (f_h643 _ (by omega) (by omega))
      have by655 : ByA z kv h643 (kv 7) (kT 7) := by640.kept (f_h643 _ (by omega) (by omega))
      have sb656 : SbA z h643 hi vw632 tt633 := s_h630.kept (f_h643 _ (by omega) (by omega)) (f_h643 _ (by omega) (by omega))
      refine ax_sVq (mc := 1) (ms := 256) (st := []) hC hX [.ref q_sq645] (sb656.rc hC) (c_J4_append_15ec4 l D z B lo _ _ kr kv hi vw632 tt633 q_sq645 v_sq645 tt646 sb656 s_h643 y_h643 (by omega) (by omega) (by omega) (by omega) (by omega) (by omega)) (cwV 1 hC.1.2.2.2.2 gL_made_J4_append_15ec4 rfl rfl rfl (by decide +kernel) ⟨Nat.le_of_ble_eq_true rfl, Nat.le_of_ble_eq_true rfl⟩) rfl rfl (Nat.le_of_ble_eq_true rfl) dL_made_337 ⟨Nat.le_of_ble_eq_true rfl, Nat.le_of_ble_eq_true rfl⟩ (fun r657 hi658 h659 hp660 => ?_)
      obtain ⟨rfl, ⟨vw661, s_h659, j_h659, k_h659⟩, i1_h659, i2_h659, f_h659⟩ := hp660
      have m_h659 : hi + 1 ≤ vw661 := by omega
      clear j_h659
      clear d1_h643 d2_h643 d3_h643 d4_h643 nb648 nb649
      have x663 : h659 aa = some (.inl (z 1, 1, .inl (g_h643))) := (f_h659 _ (by omega) (by omega) (by omega)).trans a_h643
      have sv664 : StV kr kv h659 ls lv := sv650.kept (f_h659 _ (by omega) (by omega) (by omega))
      have sv665 : StV kr kv h659 (kr 10) (kv 10) := sv651.kept (f_h659 _ (by omega) (by omega) (by omega))
      have sv666 : StV kr kv h659 (kr 7) (kv 7) := sv652.kept (f_h659 _ (by omega) (by omega) (by omega))
      have by667 : ByA z kv h659 lv (lps k) := by653.kept (f_h659 _ (by omega) (by omega) (by omega))
      have by668 : ByA z kv h659 (kv 10) (kT 10) := by654.kept (f_h659 _ (by omega) (by omega) (by omega))
      have by669 : ByA z kv h659 (kv 7) (kT 7) := by655.kept (f_h659 _ (by omega) (by omega) (by omega))
      obtain ⟨tt662, e_tt662⟩ : ∃ u9 : List Nat, u9 = tt633 ++ tt646 := ⟨_, rfl⟩
      have l_tt662 : tt662.length = tt633.length + tt646.length := by rw [e_tt662, List.length_append]
      rw [← e_tt662] at s_h659
      refine ax_iload hC 5 dL_made_340 rfl ?_
      refine ax_if_eq (tgt := 350) hC dL_made_342 (by decide) (fun c670 => ?_) (fun c670 => ?_)
      · exact absurd c670 (by decide)
      · refine ax_ldcS hC hX 9 (by decide) rfl dL_made_345 ?_
        refine ax_goto (tgt := 352) hC dL_made_347 (by decide) ?_
        have sv671 : StV kr kv h659 (kr 9) (kv 9) := Or.inr ⟨9, by decide, rfl, rfl⟩
        have by672 : ByA z kv h659 (kv 9) (kT 9) := Or.inr ⟨9, by decide, rfl, rfl⟩
        have lt_9 := hX.lt (i := 9) (by decide)
        have lk_9 : (kT 9).length = 1 := by decide
        refine ax_sVq (mc := 1) (ms := 256) (st := []) hC hX [.ref (kr 9)] (s_h659.rc hC) (c_J4_append_15ec4 l D z B lo _ _ kr kv hi vw661 tt662 (kr 9) (kv 9) (kT 9) s_h659 sv671 by672 (by omega) (by omega) (by omega) (by omega) (by omega) (by omega)) (cwV 1 hC.1.2.2.2.2 gL_made_J4_append_15ec4 rfl rfl rfl (by decide +kernel) ⟨Nat.le_of_ble_eq_true rfl, Nat.le_of_ble_eq_true rfl⟩) rfl rfl (Nat.le_of_ble_eq_true rfl) dL_made_352 ⟨Nat.le_of_ble_eq_true rfl, Nat.le_of_ble_eq_true rfl⟩ (fun r673 hi674 h675 hp676 => ?_)
        obtain ⟨rfl, ⟨vw677, s_h675, j_h675, k_h675⟩, i1_h675, i2_h675, f_h675⟩ := hp676
        have m_h675 : hi + 1 ≤ vw677 := by omega
        clear j_h675
        have x679 : h675 aa = some (.inl (z 1, 1, .inl (g_h643))) := (f_h675 _ (by omega) (by omega) (by omega)).trans x663
        have sv680 : StV kr kv h675 ls lv := sv664.kept (f_h675 _ (by omega) (by omega) (by omega))
        have sv681 : StV kr kv h675 (kr 10) (kv 10) := sv665.kept (f_h675 _ (by omega) (by omega) (by omega))
        have sv682 : StV kr kv h675 (kr 7) (kv 7) := sv666.kept (f_h675 _ (by omega) (by omega) (by omega))
        have sv683 : StV kr kv h675 (kr 9) (kv 9) := sv671.kept (f_h675 _ (by omega) (by omega) (by omega))
        have by684 : ByA z kv h675 lv (lps k) := by667.kept (f_h675 _ (by omega) (by omega) (by omega))
        have by685 : ByA z kv h675 (kv 10) (kT 10) := by668.kept (f_h675 _ (by omega) (by omega) (by omega))
        have by686 : ByA z kv h675 (kv 7) (kT 7) := by669.kept (f_h675 _ (by omega) (by omega) (by omega))
        have by687 : ByA z kv h675 (kv 9) (kT 9) := by672.kept (f_h675 _ (by omega) (by omega) (by omega))
        obtain ⟨tt678, e_tt678⟩ : ∃ u9 : List Nat, u9 = tt662 ++ kT 9 := ⟨_, rfl⟩
        have l_tt678 : tt678.length = tt662.length + (kT 9).length := by rw [e_tt678, List.length_append]
        rw [← e_tt678] at s_h675
        refine ax_sVq (mc := 2) (ms := 114) (st := []) hC hX [] (s_h675.rc hC) (c_J4_toString_0e30d l D z B lo _ _ kr kv hi vw677 tt678 s_h675 (by omega)) (cwV 0 hC.1.2.2.2.2 gL_made_J4_toString_0e30d rfl rfl rfl (by decide +kernel) ⟨Nat.le_of_ble_eq_true rfl, Nat.le_of_ble_eq_true rfl⟩) rfl rfl (Nat.le_of_ble_eq_true rfl) dL_made_355 ⟨Nat.le_of_ble_eq_true rfl, Nat.le_of_ble_eq_true rfl⟩ (fun r688 hi689 h690 hp691 => ?_)
        obtain ⟨rfl, s_h690, y_h690, i_h690, f_h690⟩ := hp691
        have x693 : h690 aa = some (.inl (z 1, 1, .inl (g_h643))) := (f_h690 _ (by omega)).trans x679
        have sv694 : StV kr kv h690 ls lv := sv680.kept (f_h690 _ (by omega))
        have sv695 : StV kr kv h690 (kr 10) (kv 10) := sv681.kept (f_h690 _ (by omega))
        have sv696 : StV kr kv h690 (kr 7) (kv 7) := sv682.kept (f_h690 _ (by omega))
        have sv697 : StV kr kv h690 (kr 9) (kv 9) := sv683.kept (f_h690 _ (by omega))
        have by698 : ByA z kv h690 lv (lps k) := by684.kept (f_h690 _ (by omega))
        have by699 : ByA z kv h690 (kv 10) (kT 10) := by685.kept (f_h690 _ (by omega))
        have by700 : ByA z kv h690 (kv 7) (kT 7) := by686.kept (f_h690 _ (by omega))
        have by701 : ByA z kv h690 (kv 9) (kT 9) := by687.kept (f_h690 _ (by omega))
        refine ax_widen (k := 300) (n := 64000) (by omega) (by omega) ?_
        refine ax_aret hC (some hi674) hr hlocks dL_made_358 ?_
        have ex702 := mk_of (cn := cnV kv) (n := 1) (k := k) (a := pos) (f := fn) (w := true) k9
        have tex702 : txt (fn + 1) true k (mkT (cnV kv) 2 k pos).1 = tt678 := by
          refine ex702.2.trans ?_
          subst e_tt678; subst e_tt662; subst e_tt646; subst e_tt633; subst e_tt620; subst e_tt606; subst e_tt595
          subst e_pp647; subst e_pp607
          first | rfl | (simp only [List.nil_append, List.append_assoc]; rfl)
        have pex702 : (mkT (cnV kv) 2 k pos).2 = pp647 := by
          refine ex702.1.trans ?_
          subst e_pp647; subst e_pp607
          rfl
        rw [tex702, pex702]
        exact ⟨_, _, rfl, s_h690, y_h690, ⟨_, x693, z_h643⟩, by omega, by omega, by omega, by omega, by omega, by omega, by omega, by omega, by omega, fun q hq hq2 => ((f_h690 q (by omega)).trans ((f_h675 q (by omega) (by omega) (by omega)).trans ((f_h659 q (by omega) (by omega) (by omega)).trans ((f_h643 q (by omega) (by omega)).trans ((f_h630 q (by omega) (by omega) (by omega)).trans ((f_h617 q (by omega) (by omega) (by omega)).trans ((f_h603 q (by omega) (by omega)).trans ((f_h592 q (by omega) (by omega) (by omega)).trans ((f_h583 q (by omega) (by omega)).trans ((f578 q (by omega)).trans (f3 q (by omega))))))))))))⟩
    by_cases s703 : (nI (cnV kv pos % 9)) = 7
    · refine ax_tableIn (tgt := 359) (off := 284) hC dL_made_75 (by rw [s703]; decide) (by rw [s703]; decide) (by rw [s703]; decide) (by decide) ?_
      have k9 : cnV kv pos % 9 = 7 := by have u_s9 : ¬ cnV kv pos % 9 = 0 := fun e => s9 (by rw [e]; rfl); have u_s13 : ¬ cnV kv pos % 9 = 1 := fun e => s13 (by rw [e]; rfl); have u_s122 : ¬ cnV kv pos % 9 = 2 := fun e => s122 (by rw [e]; rfl); have u_s231 : ¬ cnV kv pos % 9 = 3 := fun e => s231 (by rw [e]; rfl); have u_s339 : ¬ cnV kv pos % 9 = 4 := fun e => s339 (by rw [e]; rfl); have u_s447 : ¬ cnV kv pos % 9 = 5 := fun e => s447 (by rw [e]; rfl); have u_s575 : ¬ cnV kv pos % 9 = 6 := fun e => s575 (by rw [e]; rfl); have u_s703 : cnV kv pos % 9 = 7 := (nI_eq (b := 7) (by omega) (by decide)).mp s703; omega
      refine ax_new (C := RJ4) (T := TJ4) (N := 4) (ci := 1) (fs := [.null, .int 0, .int 0, .int 0]) hC tyJ4 iJ4 tyJ4_ok (by decide +kernel) (by decide +kernel) (by decide +kernel) rfl (fun j hj => by rcases (show j = 0 ∨ j = 1 ∨ j = 2 ∨ j = 3 by omega) with rfl | rfl | rfl | rfl <;> rfl) (Nat.le_of_ble_eq_true rfl) (Nat.le_of_ble_eq_true rfl) dL_made_359 (fun h704 e705 f706 => ?_)
      have e705 : h704 hi = some (.inr (1, [.null, .int 0, .int 0, .int 0])) := e705
      have x707 : h704 aa = some (.inl (z 1, 1, .inl ((upd g0 (0 : Int32).toNatClampNeg (nI (pos + 1)))))) := (f706 _ (by omega)).trans e2
      have sv708 : StV kr kv h704 ls lv := sv4.kept (f706 _ (by omega))
      have by709 : ByA z kv h704 lv (lps k) := by5.kept (f706 _ (by omega))
      refine ax_dup hC dL_made_362 rfl ?_
      refine ax_sIv (mc := 1) (ms := 16) (st := [.ref hi]) hC hX [] (c_J4_init_da8c8 l D z B lo _ _ kr kv hi e705) (cwI 0 hC.1.2.2.2.2 gL_made_J4_init_da8c8 rfl rfl rfl (hC.1.2.2.2.2 _ (by decide +kernel)) (hC.1.2.2.2.2 _ (by decide +kernel)) (hC.1.2.2.2.2 _ (by decide +kernel)) rfl (by decide +kernel) ⟨Nat.le_of_ble_eq_true rfl, Nat.le_of_ble_eq_true rfl⟩) rfl rfl (Nat.le_of_ble_eq_true rfl) dL_made_363 ⟨Nat.le_of_ble_eq_true rfl, Nat.le_of_ble_eq_true rfl⟩ (fun hi710 h711 hp712 => ?_)
      obtain ⟨i_h711, b_h711, v_h711, f_h711⟩ := hp712
      have j_h711 : hi710 = hi + 1 + 1 := i_h711
      have x713 : h711 aa = some (.inl (z 1, 1, .inl ((upd g0 (0 : Int32).toNatClampNeg (nI (pos + 1)))))) := (f_h711 _ (by omega) (by omega)).trans x707
      have sv714 : StV kr kv h711 ls lv := sv708.kept (f_h711 _ (by omega) (by omega))
      have by715 : ByA z kv h711 lv (lps k) := by709.kept (f_h711 _ (by omega) (by omega))
      have s_h711 : SbA z h711 hi (hi + 1) [] := SbA.born b_h711 v_h711
      refine ax_ldcS hC hX 1 (by decide) rfl dL_made_366 ?_
      have sv716 : StV kr kv h711 (kr 1) (kv 1) := Or.inr ⟨1, by decide, rfl, rfl⟩
      have by717 : ByA z kv h711 (kv 1) (kT 1) := Or.inr ⟨1, by decide, rfl, rfl⟩
      have lt_1 := hX.lt (i := 1) (by decide)
      have lk_1 : (kT 1).length = 0 := by decide
      have ln0 : ([] : List Nat).length = 0 := rfl
      refine ax_sVq (mc := 1) (ms := 256) (st := []) hC hX [.ref (kr 1)] (s_h711.rc hC) (c_J4_append_15ec4 l D z B lo _ _ kr kv hi (hi + 1) ([] : List Nat) (kr 1) (kv 1) (kT 1) s_h711 sv716 by717 (by omega) (by omega) (by omega) (by omega) (by omega) (by omega)) (cwV 1 hC.1.2.2.2.2 gL_made_J4_append_15ec4 rfl rfl rfl (by decide +kernel) ⟨Nat.le_of_ble_eq_true rfl, Nat.le_of_ble_eq_true rfl⟩) rfl rfl (Nat.le_of_ble_eq_true rfl) dL_made_368 ⟨Nat.le_of_ble_eq_true rfl, Nat.le_of_ble_eq_true rfl⟩ (fun r718 hi719 h720 hp721 => ?_)
      obtain ⟨rfl, ⟨vw722, s_h720, j_h720, k_h720⟩, i1_h720, i2_h720, f_h720⟩ := hp721
      have m_h720 : hi + 1 ≤ vw722 := by omega
      clear j_h720
      have x724 : h720 aa = some (.inl (z 1, 1, .inl ((upd g0 (0 : Int32).toNatClampNeg (nI (pos + 1)))))) := (f_h720 _ (by omega) (by omega) (by omega)).trans x713
      have sv725 : StV kr kv h720 ls lv := sv714.kept (f_h720 _ (by omega) (by omega) (by omega))
      have sv726 : StV kr kv h720 (kr 1) (kv 1) := sv716.kept (f_h720 _ (by omega) (by omega) (by omega))
      have by727 : ByA z kv h720 lv (lps k) := by715.kept (f_h720 _ (by omega) (by omega) (by omega))
      have by728 : ByA z kv h720 (kv 1) (kT 1) := by717.kept (f_h720 _ (by omega) (by omega) (by omega))
      obtain ⟨tt723, e_tt723⟩ : ∃ u9 : List Nat, u9 = ([] : List Nat) ++ kT 1 := ⟨_, rfl⟩
      have l_tt723 : tt723.length = ([] : List Nat).length + (kT 1).length := by rw [e_tt723, List.length_append]
      rw [← e_tt723] at s_h720
      refine ax_bipush (v := 119) hC dL_made_371 (by decide) ?_
      refine ax_aload_n hC 4 dL_made_373 rfl rfl ?_
      refine ax_sVp (mc := 0) (ms := 0) (st := [.int 119, .ref hi]) hC hX [] (rc_s hC hX sv725 rfl) (c_J0_length_8abf5 l D z B lo _ _ kr kv ls _ _ sv725 by727 (by omega)) (cwV 0 hC.1.2.2.2.2 gL_made_J0_length_8abf5 rfl rfl rfl (by decide +kernel) ⟨Nat.le_of_ble_eq_true rfl, Nat.le_of_ble_eq_true rfl⟩) rfl rfl (Nat.le_of_ble_eq_true rfl) dL_made_374 ⟨Nat.le_of_ble_eq_true rfl, Nat.le_of_ble_eq_true rfl⟩ (fun r729 er730 => ?_)
      subst er730
      refine ax_eqi (y := nI k) (congrArg nI hl3) ?_
      refine ax_iconst (v := 4) hC dL_made_377 (by decide) ?_
      refine ax_irem hC dL_made_378 (by decide) ?_
      refine ax_eqi (y := nI k) ((nI_rem (d := 4) (by omega) (by omega)).trans (congrArg nI (by omega))) ?_
      refine ax_iadd hC dL_made_379 ?_
      refine ax_eqi (y := nI (119 + k)) (nI_add 119 k) ?_
      refine ax_i2c hC dL_made_380 rfl ?_
      refine ax_eqi (y := nI (119 + k)) ((nI_255 _ (by omega)).2.2.1) ?_
      have l1732 : ([119 + k] : List Nat).length = 1 := rfl
      refine ax_sVq (mc := 1) (ms := 256) (st := []) hC hX [.int (nI (119 + k))] (s_h720.rc hC) (c_J4_append_cf468 l D z B lo _ _ kr kv hi vw722 tt723 (119 + k) s_h720 (by omega) (by omega)) (cwV 1 hC.1.2.2.2.2 gL_made_J4_append_cf468 rfl rfl rfl (by decide +kernel) ⟨Nat.le_of_ble_eq_true rfl, Nat.le_of_ble_eq_true rfl⟩) rfl rfl (Nat.le_of_ble_eq_true rfl) dL_made_381 ⟨Nat.le_of_ble_eq_true rfl, Nat.le_of_ble_eq_true rfl⟩ (fun r733 hi734 h735 hp736 => ?_)
      obtain ⟨rfl, ⟨vw737, s_h735, j_h735, k_h735⟩, i1_h735, i2_h735, f_h735⟩ := hp736
      have m_h735 : hi + 1 ≤ vw737 := by omega
      clear j_h735
      have x739 : h735 aa = some (.inl (z 1, 1, .inl ((upd g0 (0 : Int32).toNatClampNeg (nI (pos + 1)))))) := (f_h735 _ (by omega) (by omega) (by omega)).trans x724
      have sv740 : StV kr kv h735 ls lv := sv725.kept (f_h735 _ (by omega) (by omega) (by omega))
      have sv741 : StV kr kv h735 (kr 1) (kv 1) := sv726.kept (f_h735 _ (by omega) (by omega) (by omega))
      have by742 : ByA z kv h735 lv (lps k) := by727.kept (f_h735 _ (by omega) (by omega) (by omega))
      have by743 : ByA z kv h735 (kv 1) (kT 1) := by728.kept (f_h735 _ (by omega) (by omega) (by omega))
      obtain ⟨tt738, e_tt738⟩ : ∃ u9 : List Nat, u9 = tt723 ++ [119 + k] := ⟨_, rfl⟩
      have l_tt738 : tt738.length = tt723.length + ([119 + k]).length := by rw [e_tt738, List.length_append]
      rw [← e_tt738] at s_h735
      refine ax_sVq (mc := 2) (ms := 114) (st := []) hC hX [] (s_h735.rc hC) (c_J4_toString_0e30d l D z B lo _ _ kr kv hi vw737 tt738 s_h735 (by omega)) (cwV 0 hC.1.2.2.2.2 gL_made_J4_toString_0e30d rfl rfl rfl (by decide +kernel) ⟨Nat.le_of_ble_eq_true rfl, Nat.le_of_ble_eq_true rfl⟩) rfl rfl (Nat.le_of_ble_eq_true rfl) dL_made_384 ⟨Nat.le_of_ble_eq_true rfl, Nat.le_of_ble_eq_true rfl⟩ (fun r744 hi745 h746 hp747 => ?_)
      obtain ⟨rfl, s_h746, y_h746, i_h746, f_h746⟩ := hp747
      have x749 : h746 aa = some (.inl (z 1, 1, .inl ((upd g0 (0 : Int32).toNatClampNeg (nI (pos + 1)))))) := (f_h746 _ (by omega)).trans x739
      have sv750 : StV kr kv h746 ls lv := sv740.kept (f_h746 _ (by omega))
      have sv751 : StV kr kv h746 (kr 1) (kv 1) := sv741.kept (f_h746 _ (by omega))
      have by752 : ByA z kv h746 lv (lps k) := by742.kept (f_h746 _ (by omega))
      have by753 : ByA z kv h746 (kv 1) (kT 1) := by743.kept (f_h746 _ (by omega))
      refine ax_astore hC [(6, .ref hi734), (5, .int (nI (cnV kv pos))), (0, .ref (kr 19)), (1, .ref aa), (2, .int 2), (3, .ref ls), (4, .int 1)] dL_made_387 (by decide) rfl ?_
      refine ax_new (C := RJ4) (T := TJ4) (N := 4) (ci := 1) (fs := [.null, .int 0, .int 0, .int 0]) hC tyJ4 iJ4 tyJ4_ok (by decide +kernel) (by decide +kernel) (by decide +kernel) rfl (fun j hj => by rcases (show j = 0 ∨ j = 1 ∨ j = 2 ∨ j = 3 by omega) with rfl | rfl | rfl | rfl <;> rfl) (Nat.le_of_ble_eq_true rfl) (Nat.le_of_ble_eq_true rfl) dL_made_389 (fun h754 e755 f756 => ?_)
      have e755 : h754 hi745 = some (.inr (1, [.null, .int 0, .int 0, .int 0])) := e755
      have x757 : h754 aa = some (.inl (z 1, 1, .inl ((upd g0 (0 : Int32).toNatClampNeg (nI (pos + 1)))))) := (f756 _ (by omega)).trans x749
      have sv758 : StV kr kv h754 ls lv := sv750.kept (f756 _ (by omega))
      have sv759 : StV kr kv h754 (kr 1) (kv 1) := sv751.kept (f756 _ (by omega))
      have sv760 : StV kr kv h754 hi734 (hi734 + 1) := s_h746.kept (f756 _ (by omega))
      have by761 : ByA z kv h754 lv (lps k) := by752.kept (f756 _ (by omega))
      have by762 : ByA z kv h754 (kv 1) (kT 1) := by753.kept (f756 _ (by omega))
      have by763 : ByA z kv h754 (hi734 + 1) tt738 := y_h746.kept (f756 _ (by omega))
      refine ax_dup hC dL_made_392 rfl ?_
      refine ax_sIv (mc := 1) (ms := 16) (st := [.ref hi745]) hC hX [] (c_J4_init_da8c8 l D z B lo _ _ kr kv hi745 e755) (cwI 0 hC.1.2.2.2.2 gL_made_J4_init_da8c8 rfl rfl rfl (hC.1.2.2.2.2 _ (by decide +kernel)) (hC.1.2.2.2.2 _ (by decide +kernel)) (hC.1.2.2.2.2 _ (by decide +kernel)) rfl (by decide +kernel) ⟨Nat.le_of_ble_eq_true rfl, Nat.le_of_ble_eq_true rfl⟩) rfl rfl (Nat.le_of_ble_eq_true rfl) dL_made_393 ⟨Nat.le_of_ble_eq_true rfl, Nat.le_of_ble_eq_true rfl⟩ (fun hi764 h765 hp766 => ?_)
      obtain ⟨i_h765, b_h765, v_h765, f_h765⟩ := hp766
      have j_h765 : hi764 = hi745 + 1 + 1 := i_h765
      have x767 : h765 aa = some (.inl (z 1, 1, .inl ((upd g0 (0 : Int32).toNatClampNeg (nI (pos + 1)))))) := (f_h765 _ (by omega) (by omega)).trans x757
      have sv768 : StV kr kv h765 ls lv := sv758.kept (f_h765 _ (by omega) (by omega))
      have sv769 : StV kr kv h765 (kr 1) (kv 1) := sv759.kept (f_h765 _ (by omega) (by omega))
      have sv770 : StV kr kv h765 hi734 (hi734 + 1) := sv760.kept (f_h765 _ (by omega) (by omega))
      have by771 : ByA z kv h765 lv (lps k) := by761.kept (f_h765 _ (by omega) (by omega))
      have by772 : ByA z kv h765 (kv 1) (kT 1) := by762.kept (f_h765 _ (by omega) (by omega))
      have by773 : ByA z kv h765 (hi734 + 1) tt738 := by763.kept (f_h765 _ (by omega) (by omega))
      have s_h765 : SbA z h765 hi745 (hi745 + 1) [] := SbA.born b_h765 v_h765
      refine ax_ldcS hC hX 11 (by decide) rfl dL_made_396 ?_
      have sv774 : StV kr kv h765 (kr 11) (kv 11) := Or.inr ⟨11, by decide, rfl, rfl⟩
      have by775 : ByA z kv h765 (kv 11) (kT 11) := Or.inr ⟨11, by decide, rfl, rfl⟩
      have lt_11 := hX.lt (i := 11) (by decide)
      have lk_11 : (kT 11).length = 1 := by decide
      refine ax_sVq (mc := 1) (ms := 256) (st := []) hC hX [.ref (kr 11)] (s_h765.rc hC) (c_J4_append_15ec4 l D z B lo _ _ kr kv hi745 (hi745 + 1) ([] : List Nat) (kr 11) (kv 11) (kT 11) s_h765 sv774 by775 (by omega) (by omega) (by omega) (by omega) (by omega) (by omega)) (cwV 1 hC.1.2.2.2.2 gL_made_J4_append_15ec4 rfl rfl rfl (by decide +kernel) ⟨Nat.le_of_ble_eq_true rfl, Nat.le_of_ble_eq_true rfl⟩) rfl rfl (Nat.le_of_ble_eq_true rfl) dL_made_398 ⟨Nat.le_of_ble_eq_true rfl, Nat.le_of_ble_eq_true rfl⟩ (fun r776 hi777 h778 hp779 => ?_)
      obtain ⟨rfl, ⟨vw780, s_h778, j_h778, k_h778⟩, i1_h778, i2_h778, f_h778⟩ := hp779
      have m_h778 : hi745 + 1 ≤ vw780 := by omega
      clear j_h778
      have x782 : h778 aa = some (.inl (z 1, 1, .inl ((upd g0 (0 : Int32).toNatClampNeg (nI (pos + 1)))))) := (f_h778 _ (by omega) (by omega) (by omega)).trans x767
      have sv783 : StV kr kv h778 ls lv := sv768.kept (f_h778 _ (by omega) (by omega) (by omega))
      have sv784 : StV kr kv h778 (kr 1) (kv 1) := sv769.kept (f_h778 _ (by omega) (by omega) (by omega))
      have sv785 : StV kr kv h778 hi734 (hi734 + 1) := sv770.kept (f_h778 _ (by omega) (by omega) (by omega))
      have sv786 : StV kr kv h778 (kr 11) (kv 11) := sv774.kept (f_h778 _ (by omega) (by omega) (by omega))
      have by787 : ByA z kv h778 lv (lps k) := by771.kept (f_h778 _ (by omega) (by omega) (by omega))
      have by788 : ByA z kv h778 (kv 1) (kT 1) := by772.kept (f_h778 _ (by omega) (by omega) (by omega))
      have by789 : ByA z kv h778 (hi734 + 1) tt738 := by773.kept (f_h778 _ (by omega) (by omega) (by omega))
      have by790 : ByA z kv h778 (kv 11) (kT 11) := by775.kept (f_h778 _ (by omega) (by omega) (by omega))
      obtain ⟨tt781, e_tt781⟩ : ∃ u9 : List Nat, u9 = ([] : List Nat) ++ kT 11 := ⟨_, rfl⟩
      have l_tt781 : tt781.length = ([] : List Nat).length + (kT 11).length := by rw [e_tt781, List.length_append]
      rw [← e_tt781] at s_h778
      refine ax_aload hC 0 dL_made_401 rfl ?_
      refine ax_sVq (mc := 1) (ms := 256) (st := []) hC hX [.ref hi734] (s_h778.rc hC) (c_J4_append_15ec4 l D z B lo _ _ kr kv hi745 vw780 tt781 hi734 (hi734 + 1) tt738 s_h778 sv785 by789 (by omega) (by omega) (by omega) (by omega) (by omega) (by omega)) (cwV 1 hC.1.2.2.2.2 gL_made_J4_append_15ec4 rfl rfl rfl (by decide +kernel) ⟨Nat.le_of_ble_eq_true rfl, Nat.le_of_ble_eq_true rfl⟩) rfl rfl (Nat.le_of_ble_eq_true rfl) dL_made_403 ⟨Nat.le_of_ble_eq_true rfl, Nat.le_of_ble_eq_true rfl⟩ (fun r791 hi792 h793 hp794 => ?_)
      obtain ⟨rfl, ⟨vw795, s_h793, j_h793, k_h793⟩, i1_h793, i2_h793, f_h793⟩ := hp794
      have m_h793 : hi745 + 1 ≤ vw795 := by omega
      clear j_h793
      have x797 : h793 aa = some (.inl (z 1, 1, .inl ((upd g0 (0 : Int32).toNatClampNeg (nI (pos + 1)))))) := (f_h793 _ (by omega) (by omega) (by omega)).trans x782
      have sv798 : StV kr kv h793 ls lv := sv783.kept (f_h793 _ (by omega) (by omega) (by omega))
      have sv799 : StV kr kv h793 (kr 1) (kv 1) := sv784.kept (f_h793 _ (by omega) (by omega) (by omega))
      have sv800 : StV kr kv h793 hi734 (hi734 + 1) := sv785.kept (f_h793 _ (by omega) (by omega) (by omega))
      have sv801 : StV kr kv h793 (kr 11) (kv 11) := sv786.kept (f_h793 _ (by omega) (by omega) (by omega))
      have by802 : ByA z kv h793 lv (lps k) := by787.kept (f_h793 _ (by omega) (by omega) (by omega))
      have by803 : ByA z kv h793 (kv 1) (kT 1) := by788.kept (f_h793 _ (by omega) (by omega) (by omega))
      have by804 : ByA z kv h793 (hi734 + 1) tt738 := by789.kept (f_h793 _ (by omega) (by omega) (by omega))
      have by805 : ByA z kv h793 (kv 11) (kT 11) := by790.kept (f_h793 _ (by omega) (by omega) (by omega))
      obtain ⟨tt796, e_tt796⟩ : ∃ u9 : List Nat, u9 = tt781 ++ tt738 := ⟨_, rfl⟩
      have l_tt796 : tt796.length = tt781.length + tt738.length := by rw [e_tt796, List.length_append]
      rw [← e_tt796] at s_h793
      refine ax_iload hC 1 dL_made_406 rfl ?_
      refine ax_iconst (v := 4) hC dL_made_408 (by decide) ?_
      refine ax_ishr hC dL_made_409 ?_
      refine ax_eqi (y := nI (cnV kv pos / 16)) ((nI_shr (by omega)).1) ?_
      refine ax_iconst (v := 1) hC dL_made_410 (by decide) ?_
      refine ax_iand hC dL_made_411 ?_
      refine ax_eqi (y := nI (cnV kv pos / 16 % 2)) ((nI_mask _).2.1) ?_
      refine ax_if_ne (tgt := 420) hC dL_made_412 (by decide) (fun c806 => ?_) (fun c806 => ?_)
      · have k2 : ¬ cnV kv pos / 16 % 2 = 0 := fun e => c806 (by rw [e]; rfl)
        refine ax_ldcS hC hX 13 (by decide) rfl dL_made_420 ?_
        have sv807 : StV kr kv h793 (kr 13) (kv 13) := Or.inr ⟨13, by decide, rfl, rfl⟩
        have by808 : ByA z kv h793 (kv 13) (kT 13) := Or.inr ⟨13, by decide, rfl, rfl⟩
        have lt_13 := hX.lt (i := 13) (by decide)
        have lk_13 : (kT 13).length = 4 := by decide
        refine ax_sVq (mc := 1) (ms := 256) (st := []) hC hX [.ref (kr 13)] (s_h793.rc hC) (c_J4_append_15ec4 l D z B lo _ _ kr kv hi745 vw795 tt796 (kr 13) (kv 13) (kT 13) s_h793 sv807 by808 (by omega) (by omega) (by omega) (by omega) (by omega) (by omega)) (cwV 1 hC.1.2.2.2.2 gL_made_J4_append_15ec4 rfl rfl rfl (by decide +kernel) ⟨Nat.le_of_ble_eq_true rfl, Nat.le_of_ble_eq_true rfl⟩) rfl rfl (Nat.le_of_ble_eq_true rfl) dL_made_422 ⟨Nat.le_of_ble_eq_true rfl, Nat.le_of_ble_eq_true rfl⟩ (fun r809 hi810 h811 hp812 => ?_)
        obtain ⟨rfl, ⟨vw813, s_h811, j_h811, k_h811⟩, i1_h811, i2_h811, f_h811⟩ := hp812
        have m_h811 : hi745 + 1 ≤ vw813 := by omega
        clear j_h811
        have x815 : h811 aa = some (.inl (z 1, 1, .inl ((upd g0 (0 : Int32).toNatClampNeg (nI (pos + 1)))))) := (f_h811 _ (by omega) (by omega) (by omega)).trans x797
        have sv816 : StV kr kv h811 ls lv := sv798.kept (f_h811 _ (by omega) (by omega) (by omega))
        have sv817 : StV kr kv h811 (kr 1) (kv 1) := sv799.kept (f_h811 _ (by omega) (by omega) (by omega))
        have sv818 : StV kr kv h811 hi734 (hi734 + 1) := sv800.kept (f_h811 _ (by omega) (by omega) (by omega))
        have sv819 : StV kr kv h811 (kr 11) (kv 11) := sv801.kept (f_h811 _ (by omega) (by omega) (by omega))
        have sv820 : StV kr kv h811 (kr 13) (kv 13) := sv807.kept (f_h811 _ (by omega) (by omega) (by omega))
        have by821 : ByA z kv h811 lv (lps k) := by802.kept (f_h811 _ (by omega) (by omega) (by omega))
        have by822 : ByA z kv h811 (kv 1) (kT 1) := by803.kept (f_h811 _ (by omega) (by omega) (by omega))
        have by823 : ByA z kv h811 (hi734 + 1) tt738 := by804.kept (f_h811 _ (by omega) (by omega) (by omega))
        have by824 : ByA z kv h811 (kv 11) (kT 11) := by805.kept (f_h811 _ (by omega) (by omega) (by omega))
        have by825 : ByA z kv h811 (kv 13) (kT 13) := by808.kept (f_h811 _ (by omega) (by omega) (by omega))
        obtain ⟨tt814, e_tt814⟩ : ∃ u9 : List Nat, u9 = tt796 ++ kT 13 := ⟨_, rfl⟩
        have l_tt814 : tt814.length = tt796.length + (kT 13).length := by rw [e_tt814, List.length_append]
        rw [← e_tt814] at s_h811
        refine ax_aload_n hC 2 dL_made_425 rfl rfl ?_
        refine ax_aload_n hC 3 dL_made_426 rfl rfl ?_
        refine ax_iload_n hC 4 dL_made_427 rfl rfl ?_
        refine ax_iconst (v := 1) hC dL_made_428 (by decide) ?_
        refine ax_isub hC dL_made_429 ?_
        refine ax_eqi (y := 1) (by decide) ?_
        refine ax_new (C := RJ4) (T := TJ4) (N := 4) (ci := 1) (fs := [.null, .int 0, .int 0, .int 0]) hC tyJ4 iJ4 tyJ4_ok (by decide +kernel) (by decide +kernel) (by decide +kernel) rfl (fun j hj => by rcases (show j = 0 ∨ j = 1 ∨ j = 2 ∨ j = 3 by omega) with rfl | rfl | rfl | rfl <;> rfl) (Nat.le_of_ble_eq_true rfl) (Nat.le_of_ble_eq_true rfl) dL_made_430 (fun h826 e827 f828 => ?_)
        have e827 : h826 hi810 = some (.inr (1, [.null, .int 0, .int 0, .int 0])) := e827
        have x829 : h826 aa = some (.inl (z 1, 1, .inl ((upd g0 (0 : Int32).toNatClampNeg (nI (pos + 1)))))) := (f828 _ (by omega)).trans x815
        have sv830 : StV kr kv h826 ls lv := sv816.kept (f828 _ (by omega))
        have sv831 : StV kr kv h826 (kr 1) (kv 1) := sv817.kept (f828 _ (by omega))
        have sv832 : StV kr kv h826 hi734 (hi734 + 1) := sv818.kept (f828 _ (by omega))
        have sv833 : StV kr kv h826 (kr 11) (kv 11) := sv819.kept (f828 _ (by omega))
        have sv834 : StV kr kv h826 (kr 13) (kv 13) := sv820.kept (f828 _ (by omega))
        have by835 : ByA z kv h826 lv (lps k) := by821.kept (f828 _ (by omega))
        have by836 : ByA z kv h826 (kv 1) (kT 1) := by822.kept (f828 _ (by omega))
        have by837 : ByA z kv h826 (hi734 + 1) tt738 := by823.kept (f828 _ (by omega))
        have by838 : ByA z kv h826 (kv 11) (kT 11) := by824.kept (f828 _ (by omega))
        have by839 : ByA z kv h826 (kv 13) (kT 13) := by825.kept (f828 _ (by omega))
        have sb840 : SbA z h826 hi745 vw813 tt814 := s_h811.kept (f828 _ (by omega)) (f828 _ (by omega))
        refine ax_dup hC dL_made_433 rfl ?_
        refine ax_sIv (mc := 1) (ms := 16) (st := [.ref hi810, .int 1, .ref aa, .ref (kr 19), .ref hi745]) hC hX [] (c_J4_init_da8c8 l D z B lo _ _ kr kv hi810 e827) (cwI 0 hC.1.2.2.2.2 gL_made_J4_init_da8c8 rfl rfl rfl (hC.1.2.2.2.2 _ (by decide +kernel)) (hC.1.2.2.2.2 _ (by decide +kernel)) (hC.1.2.2.2.2 _ (by decide +kernel)) rfl (by decide +kernel) ⟨Nat.le_of_ble_eq_true rfl, Nat.le_of_ble_eq_true rfl⟩) rfl rfl (Nat.le_of_ble_eq_true rfl) dL_made_434 ⟨Nat.le_of_ble_eq_true rfl, Nat.le_of_ble_eq_true rfl⟩ (fun hi841 h842 hp843 => ?_)
        obtain ⟨i_h842, b_h842, v_h842, f_h842⟩ := hp843
        have j_h842 : hi841 = hi810 + 1 + 1 := i_h842
        have x844 : h842 aa = some (.inl (z 1, 1, .inl ((upd g0 (0 : Int32).toNatClampNeg (nI (pos + 1)))))) := (f_h842 _ (by omega) (by omega)).trans x829
        have sv845 : StV kr kv h842 ls lv := sv830.kept (f_h842 _ (by omega) (by omega))
        have sv846 : StV kr kv h842 (kr 1) (kv 1) := sv831.kept (f_h842 _ (by omega) (by omega))
        have sv847 : StV kr kv h842 hi734 (hi734 + 1) := sv832.kept (f_h842 _ (by omega) (by omega))
        have sv848 : StV kr kv h842 (kr 11) (kv 11) := sv833.kept (f_h842 _ (by omega) (by omega))
        have sv849 : StV kr kv h842 (kr 13) (kv 13) := sv834.kept (f_h842 _ (by omega) (by omega))
        have by850 : ByA z kv h842 lv (lps k) := by835.kept (f_h842 _ (by omega) (by omega))
        have by851 : ByA z kv h842 (kv 1) (kT 1) := by836.kept (f_h842 _ (by omega) (by omega))
        have by852 : ByA z kv h842 (hi734 + 1) tt738 := by837.kept (f_h842 _ (by omega) (by omega))
        have by853 : ByA z kv h842 (kv 11) (kT 11) := by838.kept (f_h842 _ (by omega) (by omega))
        have by854 : ByA z kv h842 (kv 13) (kT 13) := by839.kept (f_h842 _ (by omega) (by omega))
        have sb855 : SbA z h842 hi745 vw813 tt814 := sb840.kept (f_h842 _ (by omega) (by omega)) (f_h842 _ (by omega) (by omega))
        have s_h842 : SbA z h842 hi810 (hi810 + 1) [] := SbA.born b_h842 v_h842
        refine ax_aload_n hC 5 dL_made_437 rfl rfl ?_
        refine ax_sVq (mc := 1) (ms := 256) (st := [.int 1, .ref aa, .ref (kr 19), .ref hi745]) hC hX [.ref ls] (s_h842.rc hC) (c_J4_append_15ec4 l D z B lo _ _ kr kv hi810 (hi810 + 1) ([] : List Nat) ls lv (lps k) s_h842 sv845 by850 (by omega) (by omega) (by omega) (by omega) (by omega) (by omega)) (cwV 1 hC.1.2.2.2.2 gL_made_J4_append_15ec4 rfl rfl rfl (by decide +kernel) ⟨Nat.le_of_ble_eq_true rfl, Nat.le_of_ble_eq_true rfl⟩) rfl rfl (Nat.le_of_ble_eq_true rfl) dL_made_438 ⟨Nat.le_of_ble_eq_true rfl, Nat.le_of_ble_eq_true rfl⟩ (fun r856 hi857 h858 hp859 => ?_)
        obtain ⟨rfl, ⟨vw860, s_h858, j_h858, k_h858⟩, i1_h858, i2_h858, f_h858⟩ := hp859
        have m_h858 : hi810 + 1 ≤ vw860 := by omega
        clear j_h858
        have x862 : h858 aa = some (.inl (z 1, 1, .inl ((upd g0 (0 : Int32).toNatClampNeg (nI (pos + 1)))))) := (f_h858 _ (by omega) (by omega) (by omega)).trans x844
        have sv863 : StV kr kv h858 ls lv := sv845.kept (f_h858 _ (by omega) (by omega) (by omega))
        have sv864 : StV kr kv h858 (kr 1) (kv 1) := sv846.kept (f_h858 _ (by omega) (by omega) (by omega))
        have sv865 : StV kr kv h858 hi734 (hi734 + 1) := sv847.kept (f_h858 _ (by omega) (by omega) (by omega))
        have sv866 : StV kr kv h858 (kr 11) (kv 11) := sv848.kept (f_h858 _ (by omega) (by omega) (by omega))
        have sv867 : StV kr kv h858 (kr 13) (kv 13) := sv849.kept (f_h858 _ (by omega) (by omega) (by omega))
        have by868 : ByA z kv h858 lv (lps k) := by850.kept (f_h858 _ (by omega) (by omega) (by omega))
        have by869 : ByA z kv h858 (kv 1) (kT 1) := by851.kept (f_h858 _ (by omega) (by omega) (by omega))
        have by870 : ByA z kv h858 (hi734 + 1) tt738 := by852.kept (f_h858 _ (by omega) (by omega) (by omega))
        have by871 : ByA z kv h858 (kv 11) (kT 11) := by853.kept (f_h858 _ (by omega) (by omega) (by omega))
        have by872 : ByA z kv h858 (kv 13) (kT 13) := by854.kept (f_h858 _ (by omega) (by omega) (by omega))
        have sb873 : SbA z h858 hi745 vw813 tt814 := sb855.kept (f_h858 _ (by omega) (by omega) (by omega)) (f_h858 _ (by omega) (by omega) (by omega))
        obtain ⟨tt861, e_tt861⟩ : ∃ u9 : List Nat, u9 = ([] : List Nat) ++ lps k := ⟨_, rfl⟩
        have l_tt861 : tt861.length = ([] : List Nat).length + (lps k).length := by rw [e_tt861, List.length_append]
        rw [← e_tt861] at s_h858
        refine ax_aload hC 0 dL_made_441 rfl ?_
        refine ax_sVq (mc := 1) (ms := 256) (st := [.int 1, .ref aa, .ref (kr 19), .ref hi745]) hC hX [.ref hi734] (s_h858.rc hC) (c_J4_append_15ec4 l D z B lo _ _ kr kv hi810 vw860 tt861 hi734 (hi734 + 1) tt738 s_h858 sv865 by870 (by omega) (by omega) (by omega) (by omega) (by omega) (by omega)) (cwV 1 hC.1.2.2.2.2 gL_made_J4_append_15ec4 rfl rfl rfl (by decide +kernel) ⟨Nat.le_of_ble_eq_true rfl, Nat.le_of_ble_eq_true rfl⟩) rfl rfl (Nat.le_of_ble_eq_true rfl) dL_made_443 ⟨Nat.le_of_ble_eq_true rfl, Nat.le_of_ble_eq_true rfl⟩ (fun r874 hi875 h876 hp877 => ?_)
        obtain ⟨rfl, ⟨vw878, s_h876, j_h876, k_h876⟩, i1_h876, i2_h876, f_h876⟩ := hp877
        have m_h876 : hi810 + 1 ≤ vw878 := by omega
        clear j_h876
        have x880 : h876 aa = some (.inl (z 1, 1, .inl ((upd g0 (0 : Int32).toNatClampNeg (nI (pos + 1)))))) := (f_h876 _ (by omega) (by omega) (by omega)).trans x862
        have sv881 : StV kr kv h876 ls lv := sv863.kept (f_h876 _ (by omega) (by omega) (by omega))
        have sv882 : StV kr kv h876 (kr 1) (kv 1) := sv864.kept (f_h876 _ (by omega) (by omega) (by omega))
        have sv883 : StV kr kv h876 hi734 (hi734 + 1) := sv865.kept (f_h876 _ (by omega) (by omega) (by omega))
        have sv884 : StV kr kv h876 (kr 11) (kv 11) := sv866.kept (f_h876 _ (by omega) (by omega) (by omega))
        have sv885 : StV kr kv h876 (kr 13) (kv 13) := sv867.kept (f_h876 _ (by omega) (by omega) (by omega))
        have by886 : ByA z kv h876 lv (lps k) := by868.kept (f_h876 _ (by omega) (by omega) (by omega))
        have by887 : ByA z kv h876 (kv 1) (kT 1) := by869.kept (f_h876 _ (by omega) (by omega) (by omega))
        have by888 : ByA z kv h876 (hi734 + 1) tt738 := by870.kept (f_h876 _ (by omega) (by omega) (by omega))
        have by889 : ByA z kv h876 (kv 11) (kT 11) := by871.kept (f_h876 _ (by omega) (by omega) (by omega))
        have by890 : ByA z kv h876 (kv 13) (kT 13) := by872.kept (f_h876 _ (by omega) (by omega) (by omega))
        have sb891 : SbA z h876 hi745 vw813 tt814 := sb873.kept (f_h876 _ (by omega) (by omega) (by omega)) (f_h876 _ (by omega) (by omega) (by omega))
        obtain ⟨tt879, e_tt879⟩ : ∃ u9 : List Nat, u9 = tt861 ++ tt738 := ⟨_, rfl⟩
        have l_tt879 : tt879.length = tt861.length + tt738.length := by rw [e_tt879, List.length_append]
        rw [← e_tt879] at s_h876
        refine ax_sVq (mc := 2) (ms := 114) (st := [.int 1, .ref aa, .ref (kr 19), .ref hi745]) hC hX [] (s_h876.rc hC) (c_J4_toString_0e30d l D z B lo _ _ kr kv hi810 vw878 tt879 s_h876 (by omega)) (cwV 0 hC.1.2.2.2.2 gL_made_J4_toString_0e30d rfl rfl rfl (by decide +kernel) ⟨Nat.le_of_ble_eq_true rfl, Nat.le_of_ble_eq_true rfl⟩) rfl rfl (Nat.le_of_ble_eq_true rfl) dL_made_446 ⟨Nat.le_of_ble_eq_true rfl, Nat.le_of_ble_eq_true rfl⟩ (fun r892 hi893 h894 hp895 => ?_)
        obtain ⟨rfl, s_h894, y_h894, i_h894, f_h894⟩ := hp895
        have x897 : h894 aa = some (.inl (z 1, 1, .inl ((upd g0 (0 : Int32).toNatClampNeg (nI (pos + 1)))))) := (f_h894 _ (by omega)).trans x880
        have sv898 : StV kr kv h894 ls lv := sv881.kept (f_h894 _ (by omega))
        have sv899 : StV kr kv h894 (kr 1) (kv 1) := sv882.kept (f_h894 _ (by omega))
        have sv900 : StV kr kv h894 hi734 (hi734 + 1) := sv883.kept (f_h894 _ (by omega))
        have sv901 : StV kr kv h894 (kr 11) (kv 11) := sv884.kept (f_h894 _ (by omega))
        have sv902 : StV kr kv h894 (kr 13) (kv 13) := sv885.kept (f_h894 _ (by omega))
        have by903 : ByA z kv h894 lv (lps k) := by886.kept (f_h894 _ (by omega))
        have by904 : ByA z kv h894 (kv 1) (kT 1) := by887.kept (f_h894 _ (by omega))
        have by905 : ByA z kv h894 (hi734 + 1) tt738 := by888.kept (f_h894 _ (by omega))
        have by906 : ByA z kv h894 (kv 11) (kT 11) := by889.kept (f_h894 _ (by omega))
        have by907 : ByA z kv h894 (kv 13) (kT 13) := by890.kept (f_h894 _ (by omega))
        have sb908 : SbA z h894 hi745 vw813 tt814 := sb891.kept (f_h894 _ (by omega)) (f_h894 _ (by omega))
        refine ax_iload hC 6 dL_made_449 rfl ?_
        have el909 : tt879 = lps (k + 1) := by
          subst e_tt879; subst e_tt861; subst e_tt814; subst e_tt796; subst e_tt781; subst e_tt738; subst e_tt723
          (first | exact lps_S k | (simp only [show kT 1 = [] from rfl, List.nil_append]; exact lps_S k))
        rw [el909] at y_h894
        have lel909 := lps_len (k + 1)
        refine ax_sSq (mc := 120) (ms := 26000) (st := [.ref hi745]) hC hX [.ref (kr 19), .ref aa, .int 1, .ref hi875, .int 1] (c_L_made_11 l D z B lo _ _ kr kv aa (pos + 1) (k + 1) fn hi875 (hi875 + 1) _ x897 g_h1 (by omega) s_h894 y_h894 (by omega) (by omega) (by omega) (by omega) (by omega) (by omega)) (va_cwS 5 hC.1.2.2.2.2 gL_made_L_made rfl rfl rfl (by decide +kernel) ⟨Nat.le_of_ble_eq_true rfl, Nat.le_of_ble_eq_true rfl⟩) rfl rfl (Nat.le_of_ble_eq_true rfl) dL_made_451 ⟨Nat.le_of_ble_eq_true rfl, Nat.le_of_ble_eq_true rfl⟩ (fun r910 hi911 h912 hp913 => ?_)
        obtain ⟨q_sq914, v_sq914, rfl, s_h912, y_h912, ⟨g_h912, a_h912, z_h912⟩, d1_h912, d2_h912, d3_h912, d4_h912, d5_h912, d6_h912, d7_h912, o1_h912, o2_h912, f_h912⟩ := hp913
        have nb917 : q_sq914 ≠ hi745 := by omega
        have nb918 : v_sq914 ≠ hi745 := by omega
        clear o1_h912 o2_h912
        obtain ⟨tt915, e_tt915⟩ : ∃ u9 : List Nat, u9 = txt fn true (k + 1) (mkT (cnV kv) 1 (k + 1) (pos + 1)).1 := ⟨_, rfl⟩
        obtain ⟨pp916, e_pp916⟩ : ∃ u9 : Nat, u9 = (mkT (cnV kv) 1 (k + 1) (pos + 1)).2 := ⟨_, rfl⟩
        rw [← e_tt915] at y_h912 d5_h912
        rw [← e_pp916] at z_h912 d6_h912
        have sv919 : StV kr kv h912 ls lv := sv898.kept (f_h912 _ (by omega) (by omega))
        have sv920 : StV kr kv h912 (kr 1) (kv 1) := sv899.kept (f_h912 _ (by omega) (by omega))
        have sv921 : StV kr kv h912 hi734 (hi734 + 1) := sv900.kept (f_h912 _ (by omega) (by omega))
        have sv922 : StV kr kv h912 (kr 11) (kv 11) := sv901.kept (f_h912 _ (by omega) (by omega))
        have sv923 : StV kr kv h912 (kr 13) (kv 13) := sv902.kept (f_h912 _ (by omega) (by omega))
        have sv924 : StV kr kv h912 hi875 (hi875 + 1) := s_h894.kept (f_h912 _ (by omega) (by omega))
        have by925 : ByA z kv h912 lv (lps k) := by903.kept (f_h912 _ (by omega) (by omega))
        have by926 : ByA z kv h912 (kv 1) (kT 1) := by904.kept (f_h912 _ (by omega) (by omega))
        have by927 : ByA z kv h912 (hi734 + 1) tt738 := by905.kept (f_h912 _ (by omega) (by omega))
        have by928 : ByA z kv h912 (kv 11) (kT 11) := by906.kept (f_h912 _ (by omega) (by omega))
        have by929 : ByA z kv h912 (kv 13) (kT 13) := by907.kept (f_h912 _ (by omega) (by omega))
        have by930 : ByA z kv h912 (hi875 + 1) ((lps (k + 1))) := y_h894.kept (f_h912 _ (by omega) (by omega))
        have sb931 : SbA z h912 hi745 vw813 tt814 := sb908.kept (f_h912 _ (by omega) (by omega)) (f_h912 _ (by omega) (by omega))
        refine ax_sVq (mc := 1) (ms := 256) (st := []) hC hX [.ref q_sq914] (sb931.rc hC) (c_J4_append_15ec4 l D z B lo _ _ kr kv hi745 vw813 tt814 q_sq914 v_sq914 tt915 sb931 s_h912 y_h912 (by omega) (by omega) (by omega) (by omega) (by omega) (by omega)) (cwV 1 hC.1.2.2.2.2 gL_made_J4_append_15ec4 rfl rfl rfl (by decide +kernel) ⟨Nat.le_of_ble_eq_true rfl, Nat.le_of_ble_eq_true rfl⟩) rfl rfl (Nat.le_of_ble_eq_true rfl) dL_made_454 ⟨Nat.le_of_ble_eq_true rfl, Nat.le_of_ble_eq_true rfl⟩ (fun r932 hi933 h934 hp935 => ?_)
        obtain ⟨rfl, ⟨vw936, s_h934, j_h934, k_h934⟩, i1_h934, i2_h934, f_h934⟩ := hp935
        have m_h934 : hi745 + 1 ≤ vw936 := by omega
        clear j_h934
        clear d1_h912 d2_h912 d3_h912 d4_h912 nb917 nb918
        have x938 : h934 aa = some (.inl (z 1, 1, .inl (g_h912))) := (f_h934 _ (by omega) (by omega) (by omega)).trans a_h912
        have sv939 : StV kr kv h934 ls lv := sv919.kept (f_h934 _ (by omega) (by omega) (by omega))
        have sv940 : StV kr kv h934 (kr 1) (kv 1) := sv920.kept (f_h934 _ (by omega) (by omega) (by omega))
        have sv941 : StV kr kv h934 hi734 (hi734 + 1) := sv921.kept (f_h934 _ (by omega) (by omega) (by omega))
        have sv942 : StV kr kv h934 (kr 11) (kv 11) := sv922.kept (f_h934 _ (by omega) (by omega) (by omega))
        have sv943 : StV kr kv h934 (kr 13) (kv 13) := sv923.kept (f_h934 _ (by omega) (by omega) (by omega))
        have sv944 : StV kr kv h934 hi875 (hi875 + 1) := sv924.kept (f_h934 _ (by omega) (by omega) (by omega))
        have by945 : ByA z kv h934 lv (lps k) := by925.kept (f_h934 _ (by omega) (by omega) (by omega))
        have by946 : ByA z kv h934 (kv 1) (kT 1) := by926.kept (f_h934 _ (by omega) (by omega) (by omega))
        have by947 : ByA z kv h934 (hi734 + 1) tt738 := by927.kept (f_h934 _ (by omega) (by omega) (by omega))
        have by948 : ByA z kv h934 (kv 11) (kT 11) := by928.kept (f_h934 _ (by omega) (by omega) (by omega))
        have by949 : ByA z kv h934 (kv 13) (kT 13) := by929.kept (f_h934 _ (by omega) (by omega) (by omega))
        have by950 : ByA z kv h934 (hi875 + 1) ((lps (k + 1))) := by930.kept (f_h934 _ (by omega) (by omega) (by omega))
        obtain ⟨tt937, e_tt937⟩ : ∃ u9 : List Nat, u9 = tt814 ++ tt915 := ⟨_, rfl⟩
        have l_tt937 : tt937.length = tt814.length + tt915.length := by rw [e_tt937, List.length_append]
        rw [← e_tt937] at s_h934
        refine ax_sVq (mc := 2) (ms := 114) (st := []) hC hX [] (s_h934.rc hC) (c_J4_toString_0e30d l D z B lo _ _ kr kv hi745 vw936 tt937 s_h934 (by omega)) (cwV 0 hC.1.2.2.2.2 gL_made_J4_toString_0e30d rfl rfl rfl (by decide +kernel) ⟨Nat.le_of_ble_eq_true rfl, Nat.le_of_ble_eq_true rfl⟩) rfl rfl (Nat.le_of_ble_eq_true rfl) dL_made_457 ⟨Nat.le_of_ble_eq_true rfl, Nat.le_of_ble_eq_true rfl⟩ (fun r951 hi952 h953 hp954 => ?_)
        obtain ⟨rfl, s_h953, y_h953, i_h953, f_h953⟩ := hp954
        have x956 : h953 aa = some (.inl (z 1, 1, .inl (g_h912))) := (f_h953 _ (by omega)).trans x938
        have sv957 : StV kr kv h953 ls lv := sv939.kept (f_h953 _ (by omega))
        have sv958 : StV kr kv h953 (kr 1) (kv 1) := sv940.kept (f_h953 _ (by omega))
        have sv959 : StV kr kv h953 hi734 (hi734 + 1) := sv941.kept (f_h953 _ (by omega))
        have sv960 : StV kr kv h953 (kr 11) (kv 11) := sv942.kept (f_h953 _ (by omega))
        have sv961 : StV kr kv h953 (kr 13) (kv 13) := sv943.kept (f_h953 _ (by omega))
        have sv962 : StV kr kv h953 hi875 (hi875 + 1) := sv944.kept (f_h953 _ (by omega))
        have by963 : ByA z kv h953 lv (lps k) := by945.kept (f_h953 _ (by omega))
        have by964 : ByA z kv h953 (kv 1) (kT 1) := by946.kept (f_h953 _ (by omega))
        have by965 : ByA z kv h953 (hi734 + 1) tt738 := by947.kept (f_h953 _ (by omega))
        have by966 : ByA z kv h953 (kv 11) (kT 11) := by948.kept (f_h953 _ (by omega))
        have by967 : ByA z kv h953 (kv 13) (kT 13) := by949.kept (f_h953 _ (by omega))
        have by968 : ByA z kv h953 (hi875 + 1) ((lps (k + 1))) := by950.kept (f_h953 _ (by omega))
        refine ax_widen (k := 300) (n := 64000) (by omega) (by omega) ?_
        refine ax_aret hC (some hi933) hr hlocks dL_made_460 ?_
        have ex969 := mk_lp (cn := cnV kv) (n := 1) (k := k) (a := pos) (f := fn) (w := true) k9
        have tex969 : txt (fn + 1) true k (mkT (cnV kv) 2 k pos).1 = tt937 := by
          refine ex969.2.trans ?_
          subst e_tt937; subst e_tt915; subst e_tt879; subst e_tt861; subst e_tt814; subst e_tt796; subst e_tt781; subst e_tt738; subst e_tt723
          subst e_pp916
          rw [if_neg k2, if_neg k2]; simp only [List.nil_append, List.append_assoc]; rfl
        have pex969 : (mkT (cnV kv) 2 k pos).2 = pp916 := by
          refine ex969.1.trans ?_
          subst e_pp916
          rfl
        rw [tex969, pex969]
        exact ⟨_, _, rfl, s_h953, y_h953, ⟨_, x956, z_h912⟩, by omega, by omega, by omega, by omega, by omega, by omega, by omega, by omega, by omega, fun q hq hq2 => ((f_h953 q (by omega)).trans ((f_h934 q (by omega) (by omega) (by omega)).trans ((f_h912 q (by omega) (by omega)).trans ((f_h894 q (by omega)).trans ((f_h876 q (by omega) (by omega) (by omega)).trans ((f_h858 q (by omega) (by omega) (by omega)).trans ((f_h842 q (by omega) (by omega)).trans ((f828 q (by omega)).trans ((f_h811 q (by omega) (by omega) (by omega)).trans ((f_h793 q (by omega) (by omega) (by omega)).trans ((f_h778 q (by omega) (by omega) (by omega)).trans ((f_h765 q (by omega) (by omega)).trans ((f756 q (by omega)).trans ((f_h746 q (by omega)).trans ((f_h735 q (by omega) (by omega) (by omega)).trans ((f_h720 q (by omega) (by omega) (by omega)).trans ((f_h711 q (by omega) (by omega)).trans ((f706 q (by omega)).trans (f3 q (by omega))))))))))))))))))))⟩
      · have k2 : cnV kv pos / 16 % 2 = 0 := (nI_eq (b := 0) (by omega) (by decide)).mp c806
        refine ax_ldcS hC hX 12 (by decide) rfl dL_made_415 ?_
        refine ax_goto (tgt := 422) hC dL_made_417 (by decide) ?_
        have sv970 : StV kr kv h793 (kr 12) (kv 12) := Or.inr ⟨12, by decide, rfl, rfl⟩
        have by971 : ByA z kv h793 (kv 12) (kT 12) := Or.inr ⟨12, by decide, rfl, rfl⟩
        have lt_12 := hX.lt (i := 12) (by decide)
        have lk_12 : (kT 12).length = 4 := by decide
        refine ax_sVq (mc := 1) (ms := 256) (st := []) hC hX [.ref (kr 12)] (s_h793.rc hC) (c_J4_append_15ec4 l D z B lo _ _ kr kv hi745 vw795 tt796 (kr 12) (kv 12) (kT 12) s_h793 sv970 by971 (by omega) (by omega) (by omega) (by omega) (by omega) (by omega)) (cwV 1 hC.1.2.2.2.2 gL_made_J4_append_15ec4 rfl rfl rfl (by decide +kernel) ⟨Nat.le_of_ble_eq_true rfl, Nat.le_of_ble_eq_true rfl⟩) rfl rfl (Nat.le_of_ble_eq_true rfl) dL_made_422 ⟨Nat.le_of_ble_eq_true rfl, Nat.le_of_ble_eq_true rfl⟩ (fun r972 hi973 h974 hp975 => ?_)
        obtain ⟨rfl, ⟨vw976, s_h974, j_h974, k_h974⟩, i1_h974, i2_h974, f_h974⟩ := hp975
        have m_h974 : hi745 + 1 ≤ vw976 := by omega
        clear j_h974
        have x978 : h974 aa = some (.inl (z 1, 1, .inl ((upd g0 (0 : Int32).toNatClampNeg (nI (pos + 1)))))) := (f_h974 _ (by omega) (by omega) (by omega)).trans x797
        have sv979 : StV kr kv h974 ls lv := sv798.kept (f_h974 _ (by omega) (by omega) (by omega))
        have sv980 : StV kr kv h974 (kr 1) (kv 1) := sv799.kept (f_h974 _ (by omega) (by omega) (by omega))
        have sv981 : StV kr kv h974 hi734 (hi734 + 1) := sv800.kept (f_h974 _ (by omega) (by omega) (by omega))
        have sv982 : StV kr kv h974 (kr 11) (kv 11) := sv801.kept (f_h974 _ (by omega) (by omega) (by omega))
        have sv983 : StV kr kv h974 (kr 12) (kv 12) := sv970.kept (f_h974 _ (by omega) (by omega) (by omega))
        have by984 : ByA z kv h974 lv (lps k) := by802.kept (f_h974 _ (by omega) (by omega) (by omega))
        have by985 : ByA z kv h974 (kv 1) (kT 1) := by803.kept (f_h974 _ (by omega) (by omega) (by omega))
        have by986 : ByA z kv h974 (hi734 + 1) tt738 := by804.kept (f_h974 _ (by omega) (by omega) (by omega))
        have by987 : ByA z kv h974 (kv 11) (kT 11) := by805.kept (f_h974 _ (by omega) (by omega) (by omega))
        have by988 : ByA z kv h974 (kv 12) (kT 12) := by971.kept (f_h974 _ (by omega) (by omega) (by omega))
        obtain ⟨tt977, e_tt977⟩ : ∃ u9 : List Nat, u9 = tt796 ++ kT 12 := ⟨_, rfl⟩
        have l_tt977 : tt977.length = tt796.length + (kT 12).length := by rw [e_tt977, List.length_append]
        rw [← e_tt977] at s_h974
        refine ax_aload_n hC 2 dL_made_425 rfl rfl ?_
        refine ax_aload_n hC 3 dL_made_426 rfl rfl ?_
        refine ax_iload_n hC 4 dL_made_427 rfl rfl ?_
        refine ax_iconst (v := 1) hC dL_made_428 (by decide) ?_
        refine ax_isub hC dL_made_429 ?_
        refine ax_eqi (y := 1) (by decide) ?_
        refine ax_new (C := RJ4) (T := TJ4) (N := 4) (ci := 1) (fs := [.null, .int 0, .int 0, .int 0]) hC tyJ4 iJ4 tyJ4_ok (by decide +kernel) (by decide +kernel) (by decide +kernel) rfl (fun j hj => by rcases (show j = 0 ∨ j = 1 ∨ j = 2 ∨ j = 3 by omega) with rfl | rfl | rfl | rfl <;> rfl) (Nat.le_of_ble_eq_true rfl) (Nat.le_of_ble_eq_true rfl) dL_made_430 (fun h989 e990 f991 => ?_)
        have e990 : h989 hi973 = some (.inr (1, [.null, .int 0, .int 0, .int 0])) := e990
        have x992 : h989 aa = some (.inl (z 1, 1, .inl ((upd g0 (0 : Int32).toNatClampNeg (nI (pos + 1)))))) := (f991 _ (by omega)).trans x978
        have sv993 : StV kr kv h989 ls lv := sv979.kept (f991 _ (by omega))
        have sv994 : StV kr kv h989 (kr 1) (kv 1) := sv980.kept (f991 _ (by omega))
        have sv995 : StV kr kv h989 hi734 (hi734 + 1) := sv981.kept (f991 _ (by omega))
        have sv996 : StV kr kv h989 (kr 11) (kv 11) := sv982.kept (f991 _ (by omega))
        have sv997 : StV kr kv h989 (kr 12) (kv 12) := sv983.kept (f991 _ (by omega))
        have by998 : ByA z kv h989 lv (lps k) := by984.kept (f991 _ (by omega))
        have by999 : ByA z kv h989 (kv 1) (kT 1) := by985.kept (f991 _ (by omega))
        have by1000 : ByA z kv h989 (hi734 + 1) tt738 := by986.kept (f991 _ (by omega))
        have by1001 : ByA z kv h989 (kv 11) (kT 11) := by987.kept (f991 _ (by omega))
        have by1002 : ByA z kv h989 (kv 12) (kT 12) := by988.kept (f991 _ (by omega))
        have sb1003 : SbA z h989 hi745 vw976 tt977 := s_h974.kept (f991 _ (by omega)) (f991 _ (by omega))
        refine ax_dup hC dL_made_433 rfl ?_
        refine ax_sIv (mc := 1) (ms := 16) (st := [.ref hi973, .int 1, .ref aa, .ref (kr 19), .ref hi745]) hC hX [] (c_J4_init_da8c8 l D z B lo _ _ kr kv hi973 e990) (cwI 0 hC.1.2.2.2.2 gL_made_J4_init_da8c8 rfl rfl rfl (hC.1.2.2.2.2 _ (by decide +kernel)) (hC.1.2.2.2.2 _ (by decide +kernel)) (hC.1.2.2.2.2 _ (by decide +kernel)) rfl (by decide +kernel) ⟨Nat.le_of_ble_eq_true rfl, Nat.le_of_ble_eq_true rfl⟩) rfl rfl (Nat.le_of_ble_eq_true rfl) dL_made_434 ⟨Nat.le_of_ble_eq_true rfl, Nat.le_of_ble_eq_true rfl⟩ (fun hi1004 h1005 hp1006 => ?_)
        obtain ⟨i_h1005, b_h1005, v_h1005, f_h1005⟩ := hp1006
        have j_h1005 : hi1004 = hi973 + 1 + 1 := i_h1005
        have x1007 : h1005 aa = some (.inl (z 1, 1, .inl ((upd g0 (0 : Int32).toNatClampNeg (nI (pos + 1)))))) := (f_h1005 _ (by omega) (by omega)).trans x992
        have sv1008 : StV kr kv h1005 ls lv := sv993.kept (f_h1005 _ (by omega) (by omega))
        have sv1009 : StV kr kv h1005 (kr 1) (kv 1) := sv994.kept (f_h1005 _ (by omega) (by omega))
        have sv1010 : StV kr kv h1005 hi734 (hi734 + 1) := sv995.kept (f_h1005 _ (by omega) (by omega))
        have sv1011 : StV kr kv h1005 (kr 11) (kv 11) := sv996.kept (f_h1005 _ (by omega) (by omega))
        have sv1012 : StV kr kv h1005 (kr 12) (kv 12) := sv997.kept (f_h1005 _ (by omega) (by omega))
        have by1013 : ByA z kv h1005 lv (lps k) := by998.kept (f_h1005 _ (by omega) (by omega))
        have by1014 : ByA z kv h1005 (kv 1) (kT 1) := by999.kept (f_h1005 _ (by omega) (by omega))
        have by1015 : ByA z kv h1005 (hi734 + 1) tt738 := by1000.kept (f_h1005 _ (by omega) (by omega))
        have by1016 : ByA z kv h1005 (kv 11) (kT 11) := by1001.kept (f_h1005 _ (by omega) (by omega))
        have by1017 : ByA z kv h1005 (kv 12) (kT 12) := by1002.kept (f_h1005 _ (by omega) (by omega))
        have sb1018 : SbA z h1005 hi745 vw976 tt977 := sb1003.kept (f_h1005 _ (by omega) (by omega)) (f_h1005 _ (by omega) (by omega))
        have s_h1005 : SbA z h1005 hi973 (hi973 + 1) [] := SbA.born b_h1005 v_h1005
        refine ax_aload_n hC 5 dL_made_437 rfl rfl ?_
        refine ax_sVq (mc := 1) (ms := 256) (st := [.int 1, .ref aa, .ref (kr 19), .ref hi745]) hC hX [.ref ls] (s_h1005.rc hC) (c_J4_append_15ec4 l D z B lo _ _ kr kv hi973 (hi973 + 1) ([] : List Nat) ls lv (lps k) s_h1005 sv1008 by1013 (by omega) (by omega) (by omega) (by omega) (by omega) (by omega)) (cwV 1 hC.1.2.2.2.2 gL_made_J4_append_15ec4 rfl rfl rfl (by decide +kernel) ⟨Nat.le_of_ble_eq_true rfl, Nat.le_of_ble_eq_true rfl⟩) rfl rfl (Nat.le_of_ble_eq_true rfl) dL_made_438 ⟨Nat.le_of_ble_eq_true rfl, Nat.le_of_ble_eq_true rfl⟩ (fun r1019 hi1020 h1021 hp1022 => ?_)
        obtain ⟨rfl, ⟨vw1023, s_h1021, j_h1021, k_h1021⟩, i1_h1021, i2_h1021, f_h1021⟩ := hp1022
        have m_h1021 : hi973 + 1 ≤ vw1023 := by omega
        clear j_h1021
        have x1025 : h1021 aa = some (.inl (z 1, 1, .inl ((upd g0 (0 : Int32).toNatClampNeg (nI (pos + 1)))))) := (f_h1021 _ (by omega) (by omega) (by omega)).trans x1007
        have sv1026 : StV kr kv h1021 ls lv := sv1008.kept (f_h1021 _ (by omega) (by omega) (by omega))
        have sv1027 : StV kr kv h1021 (kr 1) (kv 1) := sv1009.kept (f_h1021 _ (by omega) (by omega) (by omega))
        have sv1028 : StV kr kv h1021 hi734 (hi734 + 1) := sv1010.kept (f_h1021 _ (by omega) (by omega) (by omega))
        have sv1029 : StV kr kv h1021 (kr 11) (kv 11) := sv1011.kept (f_h1021 _ (by omega) (by omega) (by omega))
        have sv1030 : StV kr kv h1021 (kr 12) (kv 12) := sv1012.kept (f_h1021 _ (by omega) (by omega) (by omega))
        have by1031 : ByA z kv h1021 lv (lps k) := by1013.kept (f_h1021 _ (by omega) (by omega) (by omega))
        have by1032 : ByA z kv h1021 (kv 1) (kT 1) := by1014.kept (f_h1021 _ (by omega) (by omega) (by omega))
        have by1033 : ByA z kv h1021 (hi734 + 1) tt738 := by1015.kept (f_h1021 _ (by omega) (by omega) (by omega))
        have by1034 : ByA z kv h1021 (kv 11) (kT 11) := by1016.kept (f_h1021 _ (by omega) (by omega) (by omega))
        have by1035 : ByA z kv h1021 (kv 12) (kT 12) := by1017.kept (f_h1021 _ (by omega) (by omega) (by omega))
        have sb1036 : SbA z h1021 hi745 vw976 tt977 := sb1018.kept (f_h1021 _ (by omega) (by omega) (by omega)) (f_h1021 _ (by omega) (by omega) (by omega))
        obtain ⟨tt1024, e_tt1024⟩ : ∃ u9 : List Nat, u9 = ([] : List Nat) ++ lps k := ⟨_, rfl⟩
        have l_tt1024 : tt1024.length = ([] : List Nat).length + (lps k).length := by rw [e_tt1024, List.length_append]
        rw [← e_tt1024] at s_h1021
        refine ax_aload hC 0 dL_made_441 rfl ?_
        refine ax_sVq (mc := 1) (ms := 256) (st := [.int 1, .ref aa, .ref (kr 19), .ref hi745]) hC hX [.ref hi734] (s_h1021.rc hC) (c_J4_append_15ec4 l D z B lo _ _ kr kv hi973 vw1023 tt1024 hi734 (hi734 + 1) tt738 s_h1021 sv1028 by1033 (by omega) (by omega) (by omega) (by omega) (by omega) (by omega)) (cwV 1 hC.1.2.2.2.2 gL_made_J4_append_15ec4 rfl rfl rfl (by decide +kernel) ⟨Nat.le_of_ble_eq_true rfl, Nat.le_of_ble_eq_true rfl⟩) rfl rfl (Nat.le_of_ble_eq_true rfl) dL_made_443 ⟨Nat.le_of_ble_eq_true rfl, Nat.le_of_ble_eq_true rfl⟩ (fun r1037 hi1038 h1039 hp1040 => ?_)
        obtain ⟨rfl, ⟨vw1041, s_h1039, j_h1039, k_h1039⟩, i1_h1039, i2_h1039, f_h1039⟩ := hp1040
        have m_h1039 : hi973 + 1 ≤ vw1041 := by omega
        clear j_h1039
        have x1043 : h1039 aa = some (.inl (z 1, 1, .inl ((upd g0 (0 : Int32).toNatClampNeg (nI (pos + 1)))))) := (f_h1039 _ (by omega) (by omega) (by omega)).trans x1025
        have sv1044 : StV kr kv h1039 ls lv := sv1026.kept (f_h1039 _ (by omega) (by omega) (by omega))
        have sv1045 : StV kr kv h1039 (kr 1) (kv 1) := sv1027.kept (f_h1039 _ (by omega) (by omega) (by omega))
        have sv1046 : StV kr kv h1039 hi734 (hi734 + 1) := sv1028.kept (f_h1039 _ (by omega) (by omega) (by omega))
        have sv1047 : StV kr kv h1039 (kr 11) (kv 11) := sv1029.kept (f_h1039 _ (by omega) (by omega) (by omega))
        have sv1048 : StV kr kv h1039 (kr 12) (kv 12) := sv1030.kept (f_h1039 _ (by omega) (by omega) (by omega))
        have by1049 : ByA z kv h1039 lv (lps k) := by1031.kept (f_h1039 _ (by omega) (by omega) (by omega))
        have by1050 : ByA z kv h1039 (kv 1) (kT 1) := by1032.kept (f_h1039 _ (by omega) (by omega) (by omega))
        have by1051 : ByA z kv h1039 (hi734 + 1) tt738 := by1033.kept (f_h1039 _ (by omega) (by omega) (by omega))
        have by1052 : ByA z kv h1039 (kv 11) (kT 11) := by1034.kept (f_h1039 _ (by omega) (by omega) (by omega))
        have by1053 : ByA z kv h1039 (kv 12) (kT 12) := by1035.kept (f_h1039 _ (by omega) (by omega) (by omega))
        have sb1054 : SbA z h1039 hi745 vw976 tt977 := sb1036.kept (f_h1039 _ (by omega) (by omega) (by omega)) (f_h1039 _ (by omega) (by omega) (by omega))
        obtain ⟨tt1042, e_tt1042⟩ : ∃ u9 : List Nat, u9 = tt1024 ++ tt738 := ⟨_, rfl⟩
        have l_tt1042 : tt1042.length = tt1024.length + tt738.length := by rw [e_tt1042, List.length_append]
        rw [← e_tt1042] at s_h1039
        refine ax_sVq (mc := 2) (ms := 114) (st := [.int 1, .ref aa, .ref (kr 19), .ref hi745]) hC hX [] (s_h1039.rc hC) (c_J4_toString_0e30d l D z B lo _ _ kr kv hi973 vw1041 tt1042 s_h1039 (by omega)) (cwV 0 hC.1.2.2.2.2 gL_made_J4_toString_0e30d rfl rfl rfl (by decide +kernel) ⟨Nat.le_of_ble_eq_true rfl, Nat.le_of_ble_eq_true rfl⟩) rfl rfl (Nat.le_of_ble_eq_true rfl) dL_made_446 ⟨Nat.le_of_ble_eq_true rfl, Nat.le_of_ble_eq_true rfl⟩ (fun r1055 hi1056 h1057 hp1058 => ?_)
        obtain ⟨rfl, s_h1057, y_h1057, i_h1057, f_h1057⟩ := hp1058
        have x1060 : h1057 aa = some (.inl (z 1, 1, .inl ((upd g0 (0 : Int32).toNatClampNeg (nI (pos + 1)))))) := (f_h1057 _ (by omega)).trans x1043
        have sv1061 : StV kr kv h1057 ls lv := sv1044.kept (f_h1057 _ (by omega))
        have sv1062 : StV kr kv h1057 (kr 1) (kv 1) := sv1045.kept (f_h1057 _ (by omega))
        have sv1063 : StV kr kv h1057 hi734 (hi734 + 1) := sv1046.kept (f_h1057 _ (by omega))
        have sv1064 : StV kr kv h1057 (kr 11) (kv 11) := sv1047.kept (f_h1057 _ (by omega))
        have sv1065 : StV kr kv h1057 (kr 12) (kv 12) := sv1048.kept (f_h1057 _ (by omega))
        have by1066 : ByA z kv h1057 lv (lps k) := by1049.kept (f_h1057 _ (by omega))
        have by1067 : ByA z kv h1057 (kv 1) (kT 1) := by1050.kept (f_h1057 _ (by omega))
        have by1068 : ByA z kv h1057 (hi734 + 1) tt738 := by1051.kept (f_h1057 _ (by omega))
        have by1069 : ByA z kv h1057 (kv 11) (kT 11) := by1052.kept (f_h1057 _ (by omega))
        have by1070 : ByA z kv h1057 (kv 12) (kT 12) := by1053.kept (f_h1057 _ (by omega))
        have sb1071 : SbA z h1057 hi745 vw976 tt977 := sb1054.kept (f_h1057 _ (by omega)) (f_h1057 _ (by omega))
        refine ax_iload hC 6 dL_made_449 rfl ?_
        have el1072 : tt1042 = lps (k + 1) := by
          subst e_tt1042; subst e_tt1024; subst e_tt977; subst e_tt796; subst e_tt781; subst e_tt738; subst e_tt723
          (first | exact lps_S k | (simp only [show kT 1 = [] from rfl, List.nil_append]; exact lps_S k))
        rw [el1072] at y_h1057
        have lel1072 := lps_len (k + 1)
        refine ax_sSq (mc := 120) (ms := 26000) (st := [.ref hi745]) hC hX [.ref (kr 19), .ref aa, .int 1, .ref hi1038, .int 1] (c_L_made_11 l D z B lo _ _ kr kv aa (pos + 1) (k + 1) fn hi1038 (hi1038 + 1) _ x1060 g_h1 (by omega) s_h1057 y_h1057 (by omega) (by omega) (by omega) (by omega) (by omega) (by omega)) (va_cwS 5 hC.1.2.2.2.2 gL_made_L_made rfl rfl rfl (by decide +kernel) ⟨Nat.le_of_ble_eq_true rfl, Nat.le_of_ble_eq_true rfl⟩) rfl rfl (Nat.le_of_ble_eq_true rfl) dL_made_451 ⟨Nat.le_of_ble_eq_true rfl, Nat.le_of_ble_eq_true rfl⟩ (fun r1073 hi1074 h1075 hp1076 => ?_)
        obtain ⟨q_sq1077, v_sq1077, rfl, s_h1075, y_h1075, ⟨g_h1075, a_h1075, z_h1075⟩, d1_h1075, d2_h1075, d3_h1075, d4_h1075, d5_h1075, d6_h1075, d7_h1075, o1_h1075, o2_h1075, f_h1075⟩ := hp1076
        have nb1080 : q_sq1077 ≠ hi745 := by omega
        have nb1081 : v_sq1077 ≠ hi745 := by omega
        clear o1_h1075 o2_h1075
        obtain ⟨tt1078, e_tt1078⟩ : ∃ u9 : List Nat, u9 = txt fn true (k + 1) (mkT (cnV kv) 1 (k + 1) (pos + 1)).1 := ⟨_, rfl⟩
        obtain ⟨pp1079, e_pp1079⟩ : ∃ u9 : Nat, u9 = (mkT (cnV kv) 1 (k + 1) (pos + 1)).2 := ⟨_, rfl⟩
        rw [← e_tt1078] at y_h1075 d5_h1075
        rw [← e_pp1079] at z_h1075 d6_h1075
        have sv1082 : StV kr kv h1075 ls lv := sv1061.kept (f_h1075 _ (by omega) (by omega))
        have sv1083 : StV kr kv h1075 (kr 1) (kv 1) := sv1062.kept (f_h1075 _ (by omega) (by omega))
        have sv1084 : StV kr kv h1075 hi734 (hi734 + 1) := sv1063.kept (f_h1075 _ (by omega) (by omega))
        have sv1085 : StV kr kv h1075 (kr 11) (kv 11) := sv1064.kept (f_h1075 _ (by omega) (by omega))
        have sv1086 : StV kr kv h1075 (kr 12) (kv 12) := sv1065.kept (f_h1075 _ (by omega) (by omega))
        have sv1087 : StV kr kv h1075 hi1038 (hi1038 + 1) := s_h1057.kept (f_h1075 _ (by omega) (by omega))
        have by1088 : ByA z kv h1075 lv (lps k) := by1066.kept (f_h1075 _ (by omega) (by omega))
        have by1089 : ByA z kv h1075 (kv 1) (kT 1) := by1067.kept (f_h1075 _ (by omega) (by omega))
        have by1090 : ByA z kv h1075 (hi734 + 1) tt738 := by1068.kept (f_h1075 _ (by omega) (by omega))
        have by1091 : ByA z kv h1075 (kv 11) (kT 11) := by1069.kept (f_h1075 _ (by omega) (by omega))
        have by1092 : ByA z kv h1075 (kv 12) (kT 12) := by1070.kept (f_h1075 _ (by omega) (by omega))
        have by1093 : ByA z kv h1075 (hi1038 + 1) ((lps (k + 1))) := y_h1057.kept (f_h1075 _ (by omega) (by omega))
        have sb1094 : SbA z h1075 hi745 vw976 tt977 := sb1071.kept (f_h1075 _ (by omega) (by omega)) (f_h1075 _ (by omega) (by omega))
        refine ax_sVq (mc := 1) (ms := 256) (st := []) hC hX [.ref q_sq1077] (sb1094.rc hC) (c_J4_append_15ec4 l D z B lo _ _ kr kv hi745 vw976 tt977 q_sq1077 v_sq1077 tt1078 sb1094 s_h1075 y_h1075 (by omega) (by omega) (by omega) (by omega) (by omega) (by omega)) (cwV 1 hC.1.2.2.2.2 gL_made_J4_append_15ec4 rfl rfl rfl (by decide +kernel) ⟨Nat.le_of_ble_eq_true rfl, Nat.le_of_ble_eq_true rfl⟩) rfl rfl (Nat.le_of_ble_eq_true rfl) dL_made_454 ⟨Nat.le_of_ble_eq_true rfl, Nat.le_of_ble_eq_true rfl⟩ (fun r1095 hi1096 h1097 hp1098 => ?_)
        obtain ⟨rfl, ⟨vw1099, s_h1097, j_h1097, k_h1097⟩, i1_h1097, i2_h1097, f_h1097⟩ := hp1098
        have m_h1097 : hi745 + 1 ≤ vw1099 := by omega
        clear j_h1097
        clear d1_h1075 d2_h1075 d3_h1075 d4_h1075 nb1080 nb1081
        have x1101 : h1097 aa = some (.inl (z 1, 1, .inl (g_h1075))) := (f_h1097 _ (by omega) (by omega) (by omega)).trans a_h1075
        have sv1102 : StV kr kv h1097 ls lv := sv1082.kept (f_h1097 _ (by omega) (by omega) (by omega))
        have sv1103 : StV kr kv h1097 (kr 1) (kv 1) := sv1083.kept (f_h1097 _ (by omega) (by omega) (by omega))
        have sv1104 : StV kr kv h1097 hi734 (hi734 + 1) := sv1084.kept (f_h1097 _ (by omega) (by omega) (by omega))
        have sv1105 : StV kr kv h1097 (kr 11) (kv 11) := sv1085.kept (f_h1097 _ (by omega) (by omega) (by omega))
        have sv1106 : StV kr kv h1097 (kr 12) (kv 12) := sv1086.kept (f_h1097 _ (by omega) (by omega) (by omega))
        have sv1107 : StV kr kv h1097 hi1038 (hi1038 + 1) := sv1087.kept (f_h1097 _ (by omega) (by omega) (by omega))
        have by1108 : ByA z kv h1097 lv (lps k) := by1088.kept (f_h1097 _ (by omega) (by omega) (by omega))
        have by1109 : ByA z kv h1097 (kv 1) (kT 1) := by1089.kept (f_h1097 _ (by omega) (by omega) (by omega))
        have by1110 : ByA z kv h1097 (hi734 + 1) tt738 := by1090.kept (f_h1097 _ (by omega) (by omega) (by omega))
        have by1111 : ByA z kv h1097 (kv 11) (kT 11) := by1091.kept (f_h1097 _ (by omega) (by omega) (by omega))
        have by1112 : ByA z kv h1097 (kv 12) (kT 12) := by1092.kept (f_h1097 _ (by omega) (by omega) (by omega))
        have by1113 : ByA z kv h1097 (hi1038 + 1) ((lps (k + 1))) := by1093.kept (f_h1097 _ (by omega) (by omega) (by omega))
        obtain ⟨tt1100, e_tt1100⟩ : ∃ u9 : List Nat, u9 = tt977 ++ tt1078 := ⟨_, rfl⟩
        have l_tt1100 : tt1100.length = tt977.length + tt1078.length := by rw [e_tt1100, List.length_append]
        rw [← e_tt1100] at s_h1097
        refine ax_sVq (mc := 2) (ms := 114) (st := []) hC hX [] (s_h1097.rc hC) (c_J4_toString_0e30d l D z B lo _ _ kr kv hi745 vw1099 tt1100 s_h1097 (by omega)) (cwV 0 hC.1.2.2.2.2 gL_made_J4_toString_0e30d rfl rfl rfl (by decide +kernel) ⟨Nat.le_of_ble_eq_true rfl, Nat.le_of_ble_eq_true rfl⟩) rfl rfl (Nat.le_of_ble_eq_true rfl) dL_made_457 ⟨Nat.le_of_ble_eq_true rfl, Nat.le_of_ble_eq_true rfl⟩ (fun r1114 hi1115 h1116 hp1117 => ?_)
        obtain ⟨rfl, s_h1116, y_h1116, i_h1116, f_h1116⟩ := hp1117
        have x1119 : h1116 aa = some (.inl (z 1, 1, .inl (g_h1075))) := (f_h1116 _ (by omega)).trans x1101
        have sv1120 : StV kr kv h1116 ls lv := sv1102.kept (f_h1116 _ (by omega))
        have sv1121 : StV kr kv h1116 (kr 1) (kv 1) := sv1103.kept (f_h1116 _ (by omega))
        have sv1122 : StV kr kv h1116 hi734 (hi734 + 1) := sv1104.kept (f_h1116 _ (by omega))
        have sv1123 : StV kr kv h1116 (kr 11) (kv 11) := sv1105.kept (f_h1116 _ (by omega))
        have sv1124 : StV kr kv h1116 (kr 12) (kv 12) := sv1106.kept (f_h1116 _ (by omega))
        have sv1125 : StV kr kv h1116 hi1038 (hi1038 + 1) := sv1107.kept (f_h1116 _ (by omega))
        have by1126 : ByA z kv h1116 lv (lps k) := by1108.kept (f_h1116 _ (by omega))
        have by1127 : ByA z kv h1116 (kv 1) (kT 1) := by1109.kept (f_h1116 _ (by omega))
        have by1128 : ByA z kv h1116 (hi734 + 1) tt738 := by1110.kept (f_h1116 _ (by omega))
        have by1129 : ByA z kv h1116 (kv 11) (kT 11) := by1111.kept (f_h1116 _ (by omega))
        have by1130 : ByA z kv h1116 (kv 12) (kT 12) := by1112.kept (f_h1116 _ (by omega))
        have by1131 : ByA z kv h1116 (hi1038 + 1) ((lps (k + 1))) := by1113.kept (f_h1116 _ (by omega))
        refine ax_widen (k := 300) (n := 64000) (by omega) (by omega) ?_
        refine ax_aret hC (some hi1096) hr hlocks dL_made_460 ?_
        have ex1132 := mk_lp (cn := cnV kv) (n := 1) (k := k) (a := pos) (f := fn) (w := true) k9
        have tex1132 : txt (fn + 1) true k (mkT (cnV kv) 2 k pos).1 = tt1100 := by
          refine ex1132.2.trans ?_
          subst e_tt1100; subst e_tt1078; subst e_tt1042; subst e_tt1024; subst e_tt977; subst e_tt796; subst e_tt781; subst e_tt738; subst e_tt723
          subst e_pp1079
          rw [if_pos k2, if_pos k2]; simp only [List.nil_append, List.append_assoc]; rfl
        have pex1132 : (mkT (cnV kv) 2 k pos).2 = pp1079 := by
          refine ex1132.1.trans ?_
          subst e_pp1079
          rfl
        rw [tex1132, pex1132]
        exact ⟨_, _, rfl, s_h1116, y_h1116, ⟨_, x1119, z_h1075⟩, by omega, by omega, by omega, by omega, by omega, by omega, by omega, by omega, by omega, fun q hq hq2 => ((f_h1116 q (by omega)).trans ((f_h1097 q (by omega) (by omega) (by omega)).trans ((f_h1075 q (by omega) (by omega)).trans ((f_h1057 q (by omega)).trans ((f_h1039 q (by omega) (by omega) (by omega)).trans ((f_h1021 q (by omega) (by omega) (by omega)).trans ((f_h1005 q (by omega) (by omega)).trans ((f991 q (by omega)).trans ((f_h974 q (by omega) (by omega) (by omega)).trans ((f_h793 q (by omega) (by omega) (by omega)).trans ((f_h778 q (by omega) (by omega) (by omega)).trans ((f_h765 q (by omega) (by omega)).trans ((f756 q (by omega)).trans ((f_h746 q (by omega)).trans ((f_h735 q (by omega) (by omega) (by omega)).trans ((f_h720 q (by omega) (by omega) (by omega)).trans ((f_h711 q (by omega) (by omega)).trans ((f706 q (by omega)).trans (f3 q (by omega))))))))))))))))))))⟩
    refine ax_tableOut (tgt := 461) hC dL_made_75 (by have q0 := i32_neL s9 (k := 0) (by decide); have q1 := i32_neL s13 (k := 1) (by decide); have q2 := i32_neL s122 (k := 2) (by decide); have q3 := i32_neL s231 (k := 3) (by decide); have q4 := i32_neL s339 (k := 4) (by decide); have q5 := i32_neL s447 (k := 5) (by decide); have q6 := i32_neL s575 (k := 6) (by decide); have q7 := i32_neL s703 (k := 7) (by decide); omega) (by decide) ?_
    have k9 : cnV kv pos % 9 = 8 := by have u_s9 : ¬ cnV kv pos % 9 = 0 := fun e => s9 (by rw [e]; rfl); have u_s13 : ¬ cnV kv pos % 9 = 1 := fun e => s13 (by rw [e]; rfl); have u_s122 : ¬ cnV kv pos % 9 = 2 := fun e => s122 (by rw [e]; rfl); have u_s231 : ¬ cnV kv pos % 9 = 3 := fun e => s231 (by rw [e]; rfl); have u_s339 : ¬ cnV kv pos % 9 = 4 := fun e => s339 (by rw [e]; rfl); have u_s447 : ¬ cnV kv pos % 9 = 5 := fun e => s447 (by rw [e]; rfl); have u_s575 : ¬ cnV kv pos % 9 = 6 := fun e => s575 (by rw [e]; rfl); have u_s703 : ¬ cnV kv pos % 9 = 7 := fun e => s703 (by rw [e]; rfl); omega
    refine ax_aload_n hC 4 dL_made_461 rfl rfl ?_
    refine ax_sVp (mc := 0) (ms := 0) (st := []) hC hX [] (rc_s hC hX sv4 rfl) (c_J0_length_8abf5 l D z B lo _ _ kr kv ls _ _ sv4 by5 (by omega)) (cwV 0 hC.1.2.2.2.2 gL_made_J0_length_8abf5 rfl rfl rfl (by decide +kernel) ⟨Nat.le_of_ble_eq_true rfl, Nat.le_of_ble_eq_true rfl⟩) rfl rfl (Nat.le_of_ble_eq_true rfl) dL_made_462 ⟨Nat.le_of_ble_eq_true rfl, Nat.le_of_ble_eq_true rfl⟩ (fun r1133 er1134 => ?_)
    subst er1134
    refine ax_eqi (y := nI k) (congrArg nI hl3) ?_
    refine ax_if_le (tgt := 502) hC dL_made_465 (by decide) (fun c1135 => ?_) (fun c1135 => ?_)
    · have k1 : ¬ 0 < k := fun e => absurd c1135 (nI_nle e (by omega))
      refine ax_ldcS hC hX 14 (by decide) rfl dL_made_502 ?_
      refine ax_widen (k := 300) (n := 64000) (by omega) (by omega) ?_
      refine ax_aret hC (some (kr 14)) hr hlocks dL_made_504 ?_
      have sv1136 : StV kr kv h1 (kr 14) (kv 14) := Or.inr ⟨14, by decide, rfl, rfl⟩
      have by1137 : ByA z kv h1 (kv 14) (kT 14) := Or.inr ⟨14, by decide, rfl, rfl⟩
      have lt_14 := hX.lt (i := 14) (by decide)
      have lk_14 : (kT 14).length = 4 := by decide
      have ex1138 := mk_i0 (cn := cnV kv) (n := 1) (k := k) (a := pos) (f := fn) (w := true) (by omega) k1
      have tex1138 : txt (fn + 1) true k (mkT (cnV kv) 2 k pos).1 = kT 14 := by
        refine ex1138.2.trans ?_
        first | rfl | (simp only [List.nil_append, List.append_assoc]; rfl)
      have pex1138 : (mkT (cnV kv) 2 k pos).2 = (pos + 1) := by
        refine ex1138.1.trans ?_
        rfl
      rw [tex1138, pex1138]
      exact ⟨_, _, rfl, sv1136, by1137, ⟨_, e2, g_h1⟩, by omega, by omega, by omega, by omega, by omega, by omega, by omega, by omega, by omega, fun q hq hq2 => (f3 q (by omega))⟩
    · have k1 : 0 < k := Nat.pos_of_ne_zero (fun e => absurd (show nI k ≤ 0 by rw [e]; decide) c1135)
      have km1 := Nat.mod_lt (cnV kv pos / 2) k1
      have km2 := Nat.mod_lt (cnV kv pos / 16) k1
      refine ax_new (C := RJ4) (T := TJ4) (N := 4) (ci := 1) (fs := [.null, .int 0, .int 0, .int 0]) hC tyJ4 iJ4 tyJ4_ok (by decide +kernel) (by decide +kernel) (by decide +kernel) rfl (fun j hj => by rcases (show j = 0 ∨ j = 1 ∨ j = 2 ∨ j = 3 by omega) with rfl | rfl | rfl | rfl <;> rfl) (Nat.le_of_ble_eq_true rfl) (Nat.le_of_ble_eq_true rfl) dL_made_468 (fun h1139 e1140 f1141 => ?_)
      have e1140 : h1139 hi = some (.inr (1, [.null, .int 0, .int 0, .int 0])) := e1140
      have x1142 : h1139 aa = some (.inl (z 1, 1, .inl ((upd g0 (0 : Int32).toNatClampNeg (nI (pos + 1)))))) := (f1141 _ (by omega)).trans e2
      have sv1143 : StV kr kv h1139 ls lv := sv4.kept (f1141 _ (by omega))
      have by1144 : ByA z kv h1139 lv (lps k) := by5.kept (f1141 _ (by omega))
      refine ax_dup hC dL_made_471 rfl ?_
      refine ax_sIv (mc := 1) (ms := 16) (st := [.ref hi]) hC hX [] (c_J4_init_da8c8 l D z B lo _ _ kr kv hi e1140) (cwI 0 hC.1.2.2.2.2 gL_made_J4_init_da8c8 rfl rfl rfl (hC.1.2.2.2.2 _ (by decide +kernel)) (hC.1.2.2.2.2 _ (by decide +kernel)) (hC.1.2.2.2.2 _ (by decide +kernel)) rfl (by decide +kernel) ⟨Nat.le_of_ble_eq_true rfl, Nat.le_of_ble_eq_true rfl⟩) rfl rfl (Nat.le_of_ble_eq_true rfl) dL_made_472 ⟨Nat.le_of_ble_eq_true rfl, Nat.le_of_ble_eq_true rfl⟩ (fun hi1145 h1146 hp1147 => ?_)
      obtain ⟨i_h1146, b_h1146, v_h1146, f_h1146⟩ := hp1147
      have j_h1146 : hi1145 = hi + 1 + 1 := i_h1146
      have x1148 : h1146 aa = some (.inl (z 1, 1, .inl ((upd g0 (0 : Int32).toNatClampNeg (nI (pos + 1)))))) := (f_h1146 _ (by omega) (by omega)).trans x1142
      have sv1149 : StV kr kv h1146 ls lv := sv1143.kept (f_h1146 _ (by omega) (by omega))
      have by1150 : ByA z kv h1146 lv (lps k) := by1144.kept (f_h1146 _ (by omega) (by omega))
      have s_h1146 : SbA z h1146 hi (hi + 1) [] := SbA.born b_h1146 v_h1146
      refine ax_ldcS hC hX 1 (by decide) rfl dL_made_475 ?_
      have sv1151 : StV kr kv h1146 (kr 1) (kv 1) := Or.inr ⟨1, by decide, rfl, rfl⟩
      have by1152 : ByA z kv h1146 (kv 1) (kT 1) := Or.inr ⟨1, by decide, rfl, rfl⟩
      have lt_1 := hX.lt (i := 1) (by decide)
      have lk_1 : (kT 1).length = 0 := by decide
      have ln0 : ([] : List Nat).length = 0 := rfl
      refine ax_sVq (mc := 1) (ms := 256) (st := []) hC hX [.ref (kr 1)] (s_h1146.rc hC) (c_J4_append_15ec4 l D z B lo _ _ kr kv hi (hi + 1) ([] : List Nat) (kr 1) (kv 1) (kT 1) s_h1146 sv1151 by1152 (by omega) (by omega) (by omega) (by omega) (by omega) (by omega)) (cwV 1 hC.1.2.2.2.2 gL_made_J4_append_15ec4 rfl rfl rfl (by decide +kernel) ⟨Nat.le_of_ble_eq_true rfl, Nat.le_of_ble_eq_true rfl⟩) rfl rfl (Nat.le_of_ble_eq_true rfl) dL_made_477 ⟨Nat.le_of_ble_eq_true rfl, Nat.le_of_ble_eq_true rfl⟩ (fun r1153 hi1154 h1155 hp1156 => ?_)
      obtain ⟨rfl, ⟨vw1157, s_h1155, j_h1155, k_h1155⟩, i1_h1155, i2_h1155, f_h1155⟩ := hp1156
      have m_h1155 : hi + 1 ≤ vw1157 := by omega
      clear j_h1155
      have x1159 : h1155 aa = some (.inl (z 1, 1, .inl ((upd g0 (0 : Int32).toNatClampNeg (nI (pos + 1)))))) := (f_h1155 _ (by omega) (by omega) (by omega)).trans x1148
      have sv1160 : StV kr kv h1155 ls lv := sv1149.kept (f_h1155 _ (by omega) (by omega) (by omega))
      have sv1161 : StV kr kv h1155 (kr 1) (kv 1) := sv1151.kept (f_h1155 _ (by omega) (by omega) (by omega))
      have by1162 : ByA z kv h1155 lv (lps k) := by1150.kept (f_h1155 _ (by omega) (by omega) (by omega))
      have by1163 : ByA z kv h1155 (kv 1) (kT 1) := by1152.kept (f_h1155 _ (by omega) (by omega) (by omega))
      obtain ⟨tt1158, e_tt1158⟩ : ∃ u9 : List Nat, u9 = ([] : List Nat) ++ kT 1 := ⟨_, rfl⟩
      have l_tt1158 : tt1158.length = ([] : List Nat).length + (kT 1).length := by rw [e_tt1158, List.length_append]
      rw [← e_tt1158] at s_h1155
      refine ax_aload_n hC 4 dL_made_480 rfl rfl ?_
      refine ax_iload hC 0 dL_made_481 rfl ?_
      refine ax_iconst (v := 4) hC dL_made_483 (by decide) ?_
      refine ax_ishr hC dL_made_484 ?_
      refine ax_eqi (y := nI (cnV kv pos / 16)) ((nI_shr (by omega)).1) ?_
      refine ax_aload_n hC 4 dL_made_485 rfl rfl ?_
      refine ax_sVp (mc := 0) (ms := 0) (st := [.int (nI (cnV kv pos / 16)), .ref ls, .ref hi]) hC hX [] (rc_s hC hX sv1160 rfl) (c_J0_length_8abf5 l D z B lo _ _ kr kv ls _ _ sv1160 by1162 (by omega)) (cwV 0 hC.1.2.2.2.2 gL_made_J0_length_8abf5 rfl rfl rfl (by decide +kernel) ⟨Nat.le_of_ble_eq_true rfl, Nat.le_of_ble_eq_true rfl⟩) rfl rfl (Nat.le_of_ble_eq_true rfl) dL_made_486 ⟨Nat.le_of_ble_eq_true rfl, Nat.le_of_ble_eq_true rfl⟩ (fun r1164 er1165 => ?_)
      subst er1165
      refine ax_eqi (y := nI k) (congrArg nI hl3) ?_
      refine ax_irem hC dL_made_489 (fun e => by have e2 := (nI_eq (b := 0) (by omega) (by decide)).mp e; omega) ?_
      refine ax_eqi (y := nI (cnV kv pos / 16 % k)) (nI_rem (by omega) (by omega)) ?_
      refine ax_sVp (mc := 0) (ms := 0) (st := [.ref hi]) hC hX [.int (nI (cnV kv pos / 16 % k))] (rc_s hC hX sv1160 rfl) (c_J0_charAt_5068e l D z B lo _ _ kr kv ls _ _ (cnV kv pos / 16 % k) sv1160 by1162 (by omega) (by omega)) (cwV 1 hC.1.2.2.2.2 gL_made_J0_charAt_5068e rfl rfl rfl (by decide +kernel) ⟨Nat.le_of_ble_eq_true rfl, Nat.le_of_ble_eq_true rfl⟩) rfl rfl (Nat.le_of_ble_eq_true rfl) dL_made_490 ⟨Nat.le_of_ble_eq_true rfl, Nat.le_of_ble_eq_true rfl⟩ (fun r1166 er1167 => ?_)
      subst er1167
      refine ax_eqi (y := nI (119 + cnV kv pos / 16 % k)) (congrArg nI (lps_get (Nat.mod_lt _ k1))) ?_
      have l11168 : ([119 + cnV kv pos / 16 % k] : List Nat).length = 1 := rfl
      refine ax_sVq (mc := 1) (ms := 256) (st := []) hC hX [.int (nI (119 + cnV kv pos / 16 % k))] (s_h1155.rc hC) (c_J4_append_cf468 l D z B lo _ _ kr kv hi vw1157 tt1158 (119 + cnV kv pos / 16 % k) s_h1155 (by omega) (by omega)) (cwV 1 hC.1.2.2.2.2 gL_made_J4_append_cf468 rfl rfl rfl (by decide +kernel) ⟨Nat.le_of_ble_eq_true rfl, Nat.le_of_ble_eq_true rfl⟩) rfl rfl (Nat.le_of_ble_eq_true rfl) dL_made_493 ⟨Nat.le_of_ble_eq_true rfl, Nat.le_of_ble_eq_true rfl⟩ (fun r1169 hi1170 h1171 hp1172 => ?_)
      obtain ⟨rfl, ⟨vw1173, s_h1171, j_h1171, k_h1171⟩, i1_h1171, i2_h1171, f_h1171⟩ := hp1172
      have m_h1171 : hi + 1 ≤ vw1173 := by omega
      clear j_h1171
      have x1175 : h1171 aa = some (.inl (z 1, 1, .inl ((upd g0 (0 : Int32).toNatClampNeg (nI (pos + 1)))))) := (f_h1171 _ (by omega) (by omega) (by omega)).trans x1159
      have sv1176 : StV kr kv h1171 ls lv := sv1160.kept (f_h1171 _ (by omega) (by omega) (by omega))
      have sv1177 : StV kr kv h1171 (kr 1) (kv 1) := sv1161.kept (f_h1171 _ (by omega) (by omega) (by omega))
      have by1178 : ByA z kv h1171 lv (lps k) := by1162.kept (f_h1171 _ (by omega) (by omega) (by omega))
      have by1179 : ByA z kv h1171 (kv 1) (kT 1) := by1163.kept (f_h1171 _ (by omega) (by omega) (by omega))
      obtain ⟨tt1174, e_tt1174⟩ : ∃ u9 : List Nat, u9 = tt1158 ++ [119 + cnV kv pos / 16 % k] := ⟨_, rfl⟩
      have l_tt1174 : tt1174.length = tt1158.length + ([119 + cnV kv pos / 16 % k]).length := by rw [e_tt1174, List.length_append]
      rw [← e_tt1174] at s_h1171
      refine ax_sVq (mc := 2) (ms := 114) (st := []) hC hX [] (s_h1171.rc hC) (c_J4_toString_0e30d l D z B lo _ _ kr kv hi vw1173 tt1174 s_h1171 (by omega)) (cwV 0 hC.1.2.2.2.2 gL_made_J4_toString_0e30d rfl rfl rfl (by decide +kernel) ⟨Nat.le_of_ble_eq_true rfl, Nat.le_of_ble_eq_true rfl⟩) rfl rfl (Nat.le_of_ble_eq_true rfl) dL_made_496 ⟨Nat.le_of_ble_eq_true rfl, Nat.le_of_ble_eq_true rfl⟩ (fun r1180 hi1181 h1182 hp1183 => ?_)
      obtain ⟨rfl, s_h1182, y_h1182, i_h1182, f_h1182⟩ := hp1183
      have x1185 : h1182 aa = some (.inl (z 1, 1, .inl ((upd g0 (0 : Int32).toNatClampNeg (nI (pos + 1)))))) := (f_h1182 _ (by omega)).trans x1175
      have sv1186 : StV kr kv h1182 ls lv := sv1176.kept (f_h1182 _ (by omega))
      have sv1187 : StV kr kv h1182 (kr 1) (kv 1) := sv1177.kept (f_h1182 _ (by omega))
      have by1188 : ByA z kv h1182 lv (lps k) := by1178.kept (f_h1182 _ (by omega))
      have by1189 : ByA z kv h1182 (kv 1) (kT 1) := by1179.kept (f_h1182 _ (by omega))
      refine ax_goto (tgt := 504) hC dL_made_499 (by decide) ?_
      refine ax_widen (k := 300) (n := 64000) (by omega) (by omega) ?_
      refine ax_aret hC (some hi1170) hr hlocks dL_made_504 ?_
      have ex1190 := mk_ag (cn := cnV kv) (n := 1) (k := k) (a := pos) (f := fn) (w := true) (by omega) k1
      have tex1190 : txt (fn + 1) true k (mkT (cnV kv) 2 k pos).1 = tt1174 := by
        refine ex1190.2.trans ?_
        subst e_tt1174; subst e_tt1158
        first | rfl | (simp only [List.nil_append, List.append_assoc]; rfl)
      have pex1190 : (mkT (cnV kv) 2 k pos).2 = (pos + 1) := by
        refine ex1190.1.trans ?_
        rfl
      rw [tex1190, pex1190]
      exact ⟨_, _, rfl, s_h1182, y_h1182, ⟨_, x1185, g_h1⟩, by omega, by omega, by omega, by omega, by omega, by omega, by omega, by omega, by omega, fun q hq hq2 => ((f_h1182 q (by omega)).trans ((f_h1171 q (by omega) (by omega) (by omega)).trans ((f_h1155 q (by omega) (by omega) (by omega)).trans ((f_h1146 q (by omega) (by omega)).trans ((f1141 q (by omega)).trans (f3 q (by omega)))))))⟩
  · exact absurd c8 (by decide)
