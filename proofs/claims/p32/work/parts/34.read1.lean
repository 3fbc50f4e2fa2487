/-- a READER, its draft and what is around, the text that it reads -/
def RdS (z : Nat → ClassId) (h : Nat → Option va_E) (rd tp ln ap b : Nat) (G : RT) (Ar tx : Nat → Int32) : Prop := h rd = some (.inr (10, [.ref (rd + 1), .ref (rd + 10), .ref tp, .int (nI ln), .int (nI ap)])) ∧ h (rd + 1) = some (.inr (9, [.int (nI b), .ref (rd + 2), .ref (rd + 3), .ref (rd + 4), .ref (rd + 5), .ref (rd + 6), .ref (rd + 7), .ref (rd + 8), .ref (rd + 9)])) ∧ h (rd + 2) = some (.inl (z 1, 60, .inl (pK (P6 G)))) ∧ h (rd + 3) = some (.inl (z 1, 60, .inl (pS (P6 G)))) ∧ h (rd + 4) = some (.inl (z 1, 60, .inl (pLt (P6 G)))) ∧ h (rd + 5) = some (.inl (z 1, 60, .inl (pLb (P6 G)))) ∧ h (rd + 6) = some (.inl (z 1, 60, .inl (pDp (P6 G)))) ∧ h (rd + 7) = some (.inl (z 1, 60, .inl (pIn (P6 G)))) ∧ h (rd + 8) = some (.inl (z 1, 360, .inl (pBr (P6 G)))) ∧ h (rd + 9) = some (.inl (z 1, 60, .inl (pSt (P6 G)))) ∧ h (rd + 10) = some (.inl (z 1, 60, .inl Ar)) ∧ h tp = some (.inl (z 1, 200, .inl tx))
abbrev rmX8_sign : Room := { frames := 0, cells := 0, slots := 0, locals := 0 }
set_option maxRecDepth 100000 in
set_option maxHeartbeats 4000000 in
theorem c_X8_sign (l : Launch) (D : va_G) (z : Nat → ClassId) (B : Heap) (lo hi : Nat) (h : Nat → Option va_E) (rd tp ln ap b : Nat) (G : RT) (Ar tx : Nat → Int32) (hR : RdS z h rd tp ln ap b G Ar tx) (htp : tp < rd) (hat : ap < ln) (hln : ln ≤ 200) : Met l yX8_sign wsX8_sign rmX8_sign (KP D vwCl B lo hi h (ty6 z) [.ref rd]) (KQp D vwCl B lo hi h (ty6 z) (fun r => r = tx ap)) 0 0 (fun q => lo ≤ q) := by
  obtain ⟨q0, q1, q2, q3, q4, q5, q6, q7, q8, q9, q10, q11⟩ := id hR
  refine ax_met (by decide) rfl (Nat.le_of_ble_eq_true rfl) (L0 := [(0, .ref rd)]) rfl ?_
  intro p e s m args below meth c hC hr hlocks hnm hargs
  have iX8 : ∀ w ∈ u_ws RX8 TX8 5, w ∈ wsX8_sign := by decide +kernel
  refine ax_aload_n hC 0 dX8_sign_0 rfl rfl ?_
  refine ax_getf (v := .int (nI ap)) hC q0 iX8 rfl 4 (by decide) (by decide +kernel) rfl rfl dX8_sign_1 ?_
  refine ax_if_lt (tgt := 42) hC dX8_sign_4 (by decide) (fun c1 => ?_) (fun c1 => ?_)
  · exact absurd c1 (nI_pos (by omega))
  · refine ax_aload_n hC 0 dX8_sign_7 rfl rfl ?_
    refine ax_getf (v := .int (nI ap)) hC q0 iX8 rfl 4 (by decide) (by decide +kernel) rfl rfl dX8_sign_8 ?_
    refine ax_aload_n hC 0 dX8_sign_11 rfl rfl ?_
    refine ax_getf (v := .int (nI ln)) hC q0 iX8 rfl 3 (by decide) (by decide +kernel) rfl rfl dX8_sign_12 ?_
    refine ax_icmp_ge (tgt := 42) hC dX8_sign_15 (by decide) (fun c2 => ?_) (fun c2 => ?_)
    · exact absurd c2 (nI_ge (by omega) (by omega))
    · refine ax_aload_n hC 0 dX8_sign_18 rfl rfl ?_
      refine ax_getf (v := .int (nI ap)) hC q0 iX8 rfl 4 (by decide) (by decide +kernel) rfl rfl dX8_sign_19 ?_
      refine ax_aload_n hC 0 dX8_sign_22 rfl rfl ?_
      refine ax_getf (v := .ref tp) hC q0 iX8 rfl 2 (by decide) (by decide +kernel) rfl rfl dX8_sign_23 ?_
      refine ax_alen (v := 200) hC q11 1 rfl rfl dX8_sign_26 ?_
      refine ax_icmp_ge (tgt := 42) hC dX8_sign_27 (by decide) (fun c3 => ?_) (fun c3 => ?_)
      · exact absurd c3 (nI_ge (a := ap) (b := 200) (by omega) (by decide))
      · refine ax_aload_n hC 0 dX8_sign_30 rfl rfl ?_
        refine ax_getf (v := .ref tp) hC q0 iX8 rfl 2 (by decide) (by decide +kernel) rfl rfl dX8_sign_31 ?_
        refine ax_aload_n hC 0 dX8_sign_34 rfl rfl ?_
        refine ax_getf (v := .int (nI ap)) hC q0 iX8 rfl 4 (by decide) (by decide +kernel) rfl rfl dX8_sign_35 ?_
        have b4 : vp_in (nI ap) 200 := vp_in_nI (by omega) (by omega)
        refine ax_iald hC q11 1 rfl b4 dX8_sign_38 ?_
        refine ax_eqi (y := tx ap) (by rw [nI_clamp (by omega)] <;> rfl) ?_
        refine ax_goto (tgt := 43) hC dX8_sign_39 (by decide) ?_
        refine ax_iret hC hr hlocks dX8_sign_43 ?_
        exact ⟨rfl, rfl, rfl⟩

def isLt (x : Int32) : Int32 := if x < 97 then 0 else if (122 : Int32) < x then 0 else 1
def kbs (x : Int32) : Int32 := if x = 33 then 1 else if x = 38 then 4 else if x = 42 then 5 else if x = 43 then 3 else if x = 48 then 0 else if x = 63 then 2 else if isLt x = 0 then -1 else 6
abbrev rmX8_isLetter : Room := { frames := 0, cells := 0, slots := 0, locals := 0 }
set_option maxRecDepth 100000 in
set_option maxHeartbeats 4000000 in
theorem c_X8_isLetter (l : Launch) (D : va_G) (z : Nat → ClassId) (B : Heap) (lo hi : Nat) (h : Nat → Option va_E) (x : Int32)  : Met l yX8_isLetter wsX8_isLetter rmX8_isLetter (KP D vwCl B lo hi h (ty6 z) [.int x]) (KQp D vwCl B lo hi h (ty6 z) (fun r => r = isLt x)) 0 0 (fun q => lo ≤ q) := by
  refine ax_met (by decide) rfl (Nat.le_of_ble_eq_true rfl) (L0 := [(0, .int x)]) rfl ?_
  intro p e s m args below meth c hC hr hlocks hnm hargs
  refine ax_iload_n hC 0 dX8_isLetter_0 rfl rfl ?_
  refine ax_bipush (v := 97) hC dX8_isLetter_1 (by decide) ?_
  refine ax_icmp_lt (tgt := 16) hC dX8_isLetter_3 (by decide) (fun c1 => ?_) (fun c1 => ?_)
  · refine ax_iconst (v := 0) hC dX8_isLetter_16 (by decide) ?_
    refine ax_zret hC hr hlocks dX8_isLetter_17 (by decide) ?_
    exact ⟨(if_pos c1).symm, rfl, rfl⟩
  · refine ax_iload_n hC 0 dX8_isLetter_6 rfl rfl ?_
    refine ax_bipush (v := 122) hC dX8_isLetter_7 (by decide) ?_
    refine ax_icmp_gt (tgt := 16) hC dX8_isLetter_9 (by decide) (fun c2 => ?_) (fun c2 => ?_)
    · refine ax_iconst (v := 0) hC dX8_isLetter_16 (by decide) ?_
      refine ax_zret hC hr hlocks dX8_isLetter_17 (by decide) ?_
      exact ⟨((if_neg c1).trans (if_pos c2)).symm, rfl, rfl⟩
    · refine ax_iconst (v := 1) hC dX8_isLetter_12 (by decide) ?_
      refine ax_goto (tgt := 17) hC dX8_isLetter_13 (by decide) ?_
      refine ax_zret hC hr hlocks dX8_isLetter_17 (by decide) ?_
      exact ⟨((if_neg c1).trans (if_neg c2)).symm, rfl, rfl⟩

abbrev rmX8_kindBySign : Room := { frames := 1, cells := 0, slots := 0, locals := 20 }
set_option maxRecDepth 100000 in
set_option maxHeartbeats 4000000 in
theorem c_X8_kindBySign (l : Launch) (D : va_G) (z : Nat → ClassId) (B : Heap) (lo hi : Nat) (h : Nat → Option va_E) (x : Int32)  : Met l yX8_kindBySign wsX8_kindBySign rmX8_kindBySign (KP D vwCl B lo hi h (ty6 z) [.int x]) (KQp D vwCl B lo hi h (ty6 z) (fun r => r = kbs x)) 0 0 (fun q => lo ≤ q) := by
  refine ax_met (by decide) rfl (Nat.le_of_ble_eq_true rfl) (L0 := [(0, .int x)]) rfl ?_
  intro p e s m args below meth c hC hr hlocks hnm hargs
  refine ax_iload_n hC 0 dX8_kindBySign_0 rfl rfl ?_
  by_cases s1 : x = 33
  · refine ax_lookup (tgt := 62) (off := 61) hC dX8_kindBySign_1 (by decide) (by rw [s1]; decide) (by decide) ?_
    refine ax_iconst (v := 1) hC dX8_kindBySign_62 (by decide) ?_
    refine ax_iret hC hr hlocks dX8_kindBySign_63 ?_
    exact ⟨by rw [s1]; decide, rfl, rfl⟩
  by_cases s2 : x = 38
  · refine ax_lookup (tgt := 68) (off := 67) hC dX8_kindBySign_1 (by decide) (by rw [s2]; decide) (by decide) ?_
    refine ax_iconst (v := 4) hC dX8_kindBySign_68 (by decide) ?_
    refine ax_iret hC hr hlocks dX8_kindBySign_69 ?_
    exact ⟨by rw [s2]; decide, rfl, rfl⟩
  by_cases s3 : x = 42
  · refine ax_lookup (tgt := 70) (off := 69) hC dX8_kindBySign_1 (by decide) (by rw [s3]; decide) (by decide) ?_
    refine ax_iconst (v := 5) hC dX8_kindBySign_70 (by decide) ?_
    refine ax_iret hC hr hlocks dX8_kindBySign_71 ?_
    exact ⟨by rw [s3]; decide, rfl, rfl⟩
  by_cases s4 : x = 43
  · refine ax_lookup (tgt := 66) (off := 65) hC dX8_kindBySign_1 (by decide) (by rw [s4]; decide) (by decide) ?_
    refine ax_iconst (v := 3) hC dX8_kindBySign_66 (by decide) ?_
    refine ax_iret hC hr hlocks dX8_kindBySign_67 ?_
    exact ⟨by rw [s4]; decide, rfl, rfl⟩
  by_cases s5 : x = 48
  · refine ax_lookup (tgt := 60) (off := 59) hC dX8_kindBySign_1 (by decide) (by rw [s5]; decide) (by decide) ?_
    refine ax_iconst (v := 0) hC dX8_kindBySign_60 (by decide) ?_
    refine ax_iret hC hr hlocks dX8_kindBySign_61 ?_
    exact ⟨by rw [s5]; decide, rfl, rfl⟩
  by_cases s6 : x = 63
  · refine ax_lookup (tgt := 64) (off := 63) hC dX8_kindBySign_1 (by decide) (by rw [s6]; decide) (by decide) ?_
    refine ax_iconst (v := 2) hC dX8_kindBySign_64 (by decide) ?_
    refine ax_iret hC hr hlocks dX8_kindBySign_65 ?_
    exact ⟨by rw [s6]; decide, rfl, rfl⟩
  refine ax_lookup (tgt := 72) (off := 71) hC dX8_kindBySign_1 (by decide) (by show Op.lookupswitch.offset [(33, 61), (38, 67), (42, 69), (43, 65), (48, 59), (63, 63)] 71 x.toInt = 71; rw [lv_osw s1 (by decide), lv_osw s2 (by decide), lv_osw s3 (by decide), lv_osw s4 (by decide), lv_osw s5 (by decide), lv_osw s6 (by decide)]; rfl) (by decide) ?_
  refine ax_iload_n hC 0 dX8_kindBySign_72 rfl rfl ?_
  refine ax_callSp (st := []) hC [.int x] (c_X8_isLetter l D z B lo _ h x) (va_cwS 1 hC.1.2.2.2.2 gX8_kindBySign_X8_isLetter rfl rfl rfl (by decide +kernel) ⟨Nat.le_of_ble_eq_true rfl, Nat.le_of_ble_eq_true rfl⟩) rfl rfl (Nat.le_of_ble_eq_true rfl) dX8_kindBySign_73 ⟨Nat.le_of_ble_eq_true rfl, Nat.le_of_ble_eq_true rfl⟩ (fun r7 er8 => ?_)
  subst er8
  refine ax_if_eq (tgt := 84) hC dX8_kindBySign_76 (by decide) (fun c9 => ?_) (fun c9 => ?_)
  · refine ax_iconst (v := (-1)) hC dX8_kindBySign_84 (by decide) ?_
    refine ax_iret hC hr hlocks dX8_kindBySign_85 ?_
    exact ⟨by rw [kbs, if_neg s1, if_neg s2, if_neg s3, if_neg s4, if_neg s5, if_neg s6, if_pos c9], rfl, rfl⟩
  · refine ax_bipush (v := 6) hC dX8_kindBySign_79 (by decide) ?_
    refine ax_goto (tgt := 85) hC dX8_kindBySign_81 (by decide) ?_
    refine ax_iret hC hr hlocks dX8_kindBySign_85 ?_
    exact ⟨by rw [kbs, if_neg s1, if_neg s2, if_neg s3, if_neg s4, if_neg s5, if_neg s6, if_neg c9], rfl, rfl⟩

abbrev rmX8_goesOn : Room := { frames := 1, cells := 0, slots := 0, locals := 20 }
set_option maxRecDepth 100000 in
set_option maxHeartbeats 4000000 in
theorem c_X8_goesOn_y (l : Launch) (D : va_G) (z : Nat → ClassId) (B : Heap) (lo hi : Nat) (h : Nat → Option va_E) (rd tp ln ap b : Nat) (G : RT) (Ar tx : Nat → Int32) (hR : RdS z h rd tp ln ap b G Ar tx) (htp : tp < rd) (due : Int32) (hat : ap < ln) (hln : ln ≤ 200) (hdue : tx ap = due) : Met l yX8_goesOn wsX8_goesOn rmX8_goesOn (KP D vwCl B lo hi h (ty6 z) [.ref rd, .int due]) (KQi D vwCl B lo (ty6 z) (fun r hi' h' => r = 1 ∧ hi' = hi ∧ (∀ q, (q < rd ∨ rd + 11 ≤ q) → h' q = h q) ∧ RdS z h' rd tp ln (ap + 1) b G Ar tx)) 0 0 (fun q => lo ≤ q) := by
  obtain ⟨q0, q1, q2, q3, q4, q5, q6, q7, q8, q9, q10, q11⟩ := id hR
  refine ax_met (by decide) rfl (Nat.le_of_ble_eq_true rfl) (L0 := [(0, .ref rd), (1, .int due)]) rfl ?_
  intro p e s m args below meth c hC hr hlocks hnm hargs
  have iX8 : ∀ w ∈ u_ws RX8 TX8 5, w ∈ wsX8_goesOn := by decide +kernel
  refine ax_aload_n hC 0 dX8_goesOn_0 rfl rfl ?_
  refine ax_callVp (st := []) hC [] q0 rfl (c_X8_sign l D z B lo _ h rd tp ln ap b G Ar tx hR htp (by omega) (by omega)) (cwV 0 hC.1.2.2.2.2 gX8_goesOn_X8_sign rfl rfl rfl (by decide +kernel) ⟨Nat.le_of_ble_eq_true rfl, Nat.le_of_ble_eq_true rfl⟩) rfl rfl (Nat.le_of_ble_eq_true rfl) dX8_goesOn_1 ⟨Nat.le_of_ble_eq_true rfl, Nat.le_of_ble_eq_true rfl⟩ (fun r1 er2 => ?_)
  subst er2
  refine ax_iload_n hC 1 dX8_goesOn_4 rfl rfl ?_
  refine ax_icmp_eq (tgt := 10) hC dX8_goesOn_5 (by decide) (fun c3 => ?_) (fun c3 => ?_)
  · refine ax_aload_n hC 0 dX8_goesOn_10 rfl rfl ?_
    refine ax_dup hC dX8_goesOn_11 rfl ?_
    refine ax_getf (v := .int (nI ap)) hC q0 iX8 rfl 4 (by decide) (by decide +kernel) rfl rfl dX8_goesOn_12 ?_
    refine ax_iconst (v := 1) hC dX8_goesOn_15 (by decide) ?_
    refine ax_iadd hC dX8_goesOn_16 ?_
    refine ax_eqi (y := nI (ap + 1)) (nI_1 ap) ?_
    refine ax_putf (v := .int (nI (ap + 1))) (ty := .int) hC tyX8 q0 iX8 tyX8_ok nmX8 rfl 4 (by decide) (by decide +kernel) rfl rfl (by decide +kernel) (rfl) rfl (Nat.le_of_ble_eq_true rfl) dX8_goesOn_17 (fun h4 e5 f6 => ?_)
    have e5 : h4 rd = some (.inr (10, [.ref (rd + 1), .ref (rd + 10), .ref tp, .int (nI ln), .int (nI (ap + 1))])) := e5
    have x7 : h4 (rd + 1) = some (.inr (9, [.int (nI b), .ref (rd + 2), .ref (rd + 3), .ref (rd + 4), .ref (rd + 5), .ref (rd + 6), .ref (rd + 7), .ref (rd + 8), .ref (rd + 9)])) := (f6 _ (by omega)).trans q1
    have x8 : h4 (rd + 2) = some (.inl (z 1, 60, .inl (pK (P6 G)))) := (f6 _ (by omega)).trans q2
    have x9 : h4 (rd + 3) = some (.inl (z 1, 60, .inl (pS (P6 G)))) := (f6 _ (by omega)).trans q3
    have x10 : h4 (rd + 4) = some (.inl (z 1, 60, .inl (pLt (P6 G)))) := (f6 _ (by omega)).trans q4
    have x11 : h4 (rd + 5) = some (.inl (z 1, 60, .inl (pLb (P6 G)))) := (f6 _ (by omega)).trans q5
    have x12 : h4 (rd + 6) = some (.inl (z 1, 60, .inl (pDp (P6 G)))) := (f6 _ (by omega)).trans q6
    have x13 : h4 (rd + 7) = some (.inl (z 1, 60, .inl (pIn (P6 G)))) := (f6 _ (by omega)).trans q7
    have x14 : h4 (rd + 8) = some (.inl (z 1, 360, .inl (pBr (P6 G)))) := (f6 _ (by omega)).trans q8
    have x15 : h4 (rd + 9) = some (.inl (z 1, 60, .inl (pSt (P6 G)))) := (f6 _ (by omega)).trans q9
    have x16 : h4 (rd + 10) = some (.inl (z 1, 60, .inl (Ar))) := (f6 _ (by omega)).trans q10
    have x17 : h4 tp = some (.inl (z 1, 200, .inl (tx))) := (f6 _ (by omega)).trans q11
    refine ax_iconst (v := 1) hC dX8_goesOn_20 (by decide) ?_
    refine ax_zret hC hr hlocks dX8_goesOn_21 (by decide) ?_
    exact ⟨rfl, rfl, fun q hq => (f6 q (by omega)), ⟨e5, x7, x8, x9, x10, x11, x12, x13, x14, x15, x16, x17⟩⟩
  · exact absurd hdue c3

set_option maxRecDepth 100000 in
set_option maxHeartbeats 4000000 in
theorem c_X8_goesOn_n (l : Launch) (D : va_G) (z : Nat → ClassId) (B : Heap) (lo hi : Nat) (h : Nat → Option va_E) (rd tp ln ap b : Nat) (G : RT) (Ar tx : Nat → Int32) (hR : RdS z h rd tp ln ap b G Ar tx) (htp : tp < rd) (due : Int32) (hat : ap < ln) (hln : ln ≤ 200) (hdue : ¬ tx ap = due) : Met l yX8_goesOn wsX8_goesOn rmX8_goesOn (KP D vwCl B lo hi h (ty6 z) [.ref rd, .int due]) (KQp D vwCl B lo hi h (ty6 z) (fun r => r = 0)) 0 0 (fun q => lo ≤ q) := by
  obtain ⟨q0, q1, q2, q3, q4, q5, q6, q7, q8, q9, q10, q11⟩ := id hR
  refine ax_met (by decide) rfl (Nat.le_of_ble_eq_true rfl) (L0 := [(0, .ref rd), (1, .int due)]) rfl ?_
  intro p e s m args below meth c hC hr hlocks hnm hargs
  refine ax_aload_n hC 0 dX8_goesOn_0 rfl rfl ?_
  refine ax_callVp (st := []) hC [] q0 rfl (c_X8_sign l D z B lo _ h rd tp ln ap b G Ar tx hR htp (by omega) (by omega)) (cwV 0 hC.1.2.2.2.2 gX8_goesOn_X8_sign rfl rfl rfl (by decide +kernel) ⟨Nat.le_of_ble_eq_true rfl, Nat.le_of_ble_eq_true rfl⟩) rfl rfl (Nat.le_of_ble_eq_true rfl) dX8_goesOn_1 ⟨Nat.le_of_ble_eq_true rfl, Nat.le_of_ble_eq_true rfl⟩ (fun r1 er2 => ?_)
  subst er2
  refine ax_iload_n hC 1 dX8_goesOn_4 rfl rfl ?_
  refine ax_icmp_eq (tgt := 10) hC dX8_goesOn_5 (by decide) (fun c3 => ?_) (fun c3 => ?_)
  · exact absurd c3 hdue
  · refine ax_iconst (v := 0) hC dX8_goesOn_8 (by decide) ?_
    refine ax_zret hC hr hlocks dX8_goesOn_9 (by decide) ?_
    exact ⟨rfl, rfl, rfl⟩

/-- from v on up what is around leads to the LOOP of the letter c, at l: pre, what lies between -/
def LpF (K Lt Ar : Nat → Int32) (n : Nat) (c : Int32) (l : Nat) : List Nat → Int32 → Prop
  | [], v => v = nI l ∧ l < n ∧ K l = 5 ∧ Lt l = c
  | x :: pre, v => v = nI x ∧ x < n ∧ (K x = 5 → ¬ Lt x = c) ∧ LpF K Lt Ar n c l pre (Ar x)
theorem LpF.mono {K Lt Ar K' Lt' Ar' : Nat → Int32} {n n' : Nat} {c : Int32} {l : Nat} (hn : n ≤ n') (hK : ∀ i, i < n → K' i = K i) (hL : ∀ i, i < n → Lt' i = Lt i) (hA : ∀ i, i < n → Ar' i = Ar i) : ∀ {pre : List Nat} {v : Int32}, LpF K Lt Ar n c l pre v → LpF K' Lt' Ar' n' c l pre v
  | [], v, ⟨h1, h2, h3, h4⟩ => ⟨h1, by omega, (hK l h2).trans h3, (hL l h2).trans h4⟩
  | x :: pre, v, ⟨h1, h2, h3, h4⟩ => ⟨h1, by omega, fun q => by rw [hK x h2] at q; rw [hL x h2]; exact h3 q, by rw [hA x h2]; exact LpF.mono hn hK hL hA h4⟩
theorem LpF.mem {K Lt Ar : Nat → Int32} {n : Nat} {c : Int32} {l : Nat} : ∀ {pre : List Nat} {v : Int32}, LpF K Lt Ar n c l pre v → ∀ x ∈ pre, x < n
  | [], _, _, x, hx => absurd hx List.not_mem_nil
  | y :: pre, v, ⟨_, h2, _, h4⟩, x, hx => by
    rcases List.mem_cons.mp hx with rfl | hx
    · exact h2
    · exact LpF.mem h4 x hx
abbrev rmX8_loopAround : Room := { frames := 1, cells := 0, slots := 0, locals := 21 }
set_option maxRecDepth 100000 in
set_option maxHeartbeats 4000000 in
theorem c_X8_loopAround (l : Launch) (D : va_G) (z : Nat → ClassId) (B : Heap) (lo hi : Nat) (h : Nat → Option va_E) (rd tp ln ap b : Nat) (G : RT) (Ar tx : Nat → Int32) (v0 c9 : Int32) (lp : Nat) (pre : List Nat) (hR : RdS z h rd tp ln ap b G Ar tx) (htp : tp < rd) (hb : b ≤ 60) (hlen : pre.length < 60) (hL : LpF (pK (P6 G)) (pLt (P6 G)) Ar b c9 lp pre v0) (hm : ∃ x ∈ pre, ¬ pK (P6 G) x = 5) : Met l yX8_loopAround wsX8_loopAround rmX8_loopAround (KP D vwCl B lo hi h (ty6 z) [.ref rd, .int v0, .int c9]) (KQp D vwCl B lo hi h (ty6 z) (fun r => r = nI lp)) 0 0 (fun q => lo ≤ q) := by
  obtain ⟨q0, q1, q2, q3, q4, q5, q6, q7, q8, q9, q10, q11⟩ := id hR
  refine ax_met (by decide) rfl (Nat.le_of_ble_eq_true rfl) (L0 := [(0, .ref rd), (1, .int v0), (2, .int c9)]) rfl ?_
  intro p e s m args below meth c hC hr hlocks hnm hargs
  have iX8 : ∀ w ∈ u_ws RX8 TX8 5, w ∈ wsX8_loopAround := by decide +kernel
  have LP : ∀ (pre : List Nat) (t : Nat) (v mo : Int32), t + pre.length < 60 → LpF (pK (P6 G)) (pLt (P6 G)) Ar b c9 lp pre v → ((∃ x ∈ pre, ¬ pK (P6 G) x = 5) ∨ mo = 1) → Gx p l e rmX8_loopAround s m args below meth c D vwCl B lo 7 (MQ below (KQp D vwCl B lo hi h (ty6 z) (fun r => r = nI lp)) args s 0 0 (fun q => lo ≤ q)) hi h 0 0 [(5, .int (nI t)), (4, .int v), (3, .int mo), (2, .int c9), (0, .ref rd)] 8 [] := by
    intro pre
    induction pre with
    | nil =>
      intro t v mo ht hL hm
      obtain ⟨hv, hlb, hK5, hLc⟩ := hL
      subst hv
      obtain rfl : mo = 1 := hm.resolve_left (fun ⟨x9, hx9, _⟩ => absurd hx9 List.not_mem_nil)
      refine ax_iload hC 0 dX8_loopAround_8 rfl ?_
      refine ax_bipush (v := 60) hC dX8_loopAround_10 (by decide) ?_
      refine ax_icmp_ge (tgt := 98) hC dX8_loopAround_12 (by decide) (fun c109001 => ?_) (fun c109001 => ?_)
      · exact absurd c109001 (by rw [i32_le, nI_toInt (by omega)]; have : (60 : Int32).toInt = 60 := (by decide); omega)
      · refine ax_iload hC 1 dX8_loopAround_15 rfl ?_
        refine ax_if_lt (tgt := 98) hC dX8_loopAround_17 (by decide) (fun c109002 => ?_) (fun c109002 => ?_)
        · exact absurd c109002 (nI_pos (by omega))
        · refine ax_iload hC 1 dX8_loopAround_20 rfl ?_
          refine ax_bipush (v := 60) hC dX8_loopAround_22 (by decide) ?_
          refine ax_icmp_ge (tgt := 98) hC dX8_loopAround_24 (by decide) (fun c109003 => ?_) (fun c109003 => ?_)
          · exact absurd c109003 (nI_ge (a := lp) (b := 60) (by omega) (by decide))
          · refine ax_aload_n hC 4 dX8_loopAround_27 rfl rfl ?_
            refine ax_getf (v := .ref (rd + 1)) hC q0 iX8 rfl 0 (by decide) (by decide +kernel) rfl rfl dX8_loopAround_28 ?_
            refine ax_iload hC 1 dX8_loopAround_31 rfl ?_
            refine ax_callVp (st := []) hC [.int (nI lp)] q1 rfl (c_X7_kindOf l D z B lo _ h (rd + 1) _ ((60, (pK (P6 G), pS (P6 G), pLt (P6 G), pLb (P6 G), pDp (P6 G), pIn (P6 G), pBr (P6 G), pSt (P6 G))) : PT) (nI lp) ⟨q1, q2, q3, q4, q5, q6, q7, q8, q9⟩ (Nat.le_refl 60)) (cwV 1 hC.1.2.2.2.2 gX8_loopAround_X7_kindOf rfl rfl rfl (by decide +kernel) ⟨Nat.le_of_ble_eq_true rfl, Nat.le_of_ble_eq_true rfl⟩) rfl rfl (Nat.le_of_ble_eq_true rfl) dX8_loopAround_33 ⟨Nat.le_of_ble_eq_true rfl, Nat.le_of_ble_eq_true rfl⟩ (fun r109004 er109005 => ?_)
            subst er109005
            refine ax_eqi (y := (pK (P6 G)) lp) (rd_nat (n := 60) (j := lp) (by omega) (by decide)) ?_
            refine ax_iconst (v := 5) hC dX8_loopAround_36 (by decide) ?_
            refine ax_icmp_ne (tgt := 44) hC dX8_loopAround_37 (by decide) (fun c109006 => ?_) (fun c109006 => ?_)
            · exact absurd hK5 c109006
            · refine ax_iconst (v := 1) hC dX8_loopAround_40 (by decide) ?_
              refine ax_goto (tgt := 45) hC dX8_loopAround_41 (by decide) ?_
              refine ax_istore hC [(6, .int 1), (5, .int (nI t)), (4, .int (nI lp)), (3, .int 1), (2, .int c9), (0, .ref rd)] dX8_loopAround_45 (by decide) rfl ?_
              refine ax_iload hC 0 dX8_loopAround_47 rfl ?_
              refine ax_if_eq (tgt := 76) hC dX8_loopAround_49 (by decide) (fun c109007 => ?_) (fun c109007 => ?_)
              · exact absurd c109007 (by decide)
              · refine ax_aload_n hC 5 dX8_loopAround_52 rfl rfl ?_
                refine ax_getf (v := .ref (rd + 1)) hC q0 iX8 rfl 0 (by decide) (by decide +kernel) rfl rfl dX8_loopAround_53 ?_
                refine ax_iload hC 2 dX8_loopAround_56 rfl ?_
                refine ax_callVp (st := []) hC [.int (nI lp)] q1 rfl (c_X7_letterOf l D z B lo _ h (rd + 1) _ ((60, (pK (P6 G), pS (P6 G), pLt (P6 G), pLb (P6 G), pDp (P6 G), pIn (P6 G), pBr (P6 G), pSt (P6 G))) : PT) (nI lp) ⟨q1, q2, q3, q4, q5, q6, q7, q8, q9⟩ (Nat.le_refl 60)) (cwV 1 hC.1.2.2.2.2 gX8_loopAround_X7_letterOf rfl rfl rfl (by decide +kernel) ⟨Nat.le_of_ble_eq_true rfl, Nat.le_of_ble_eq_true rfl⟩) rfl rfl (Nat.le_of_ble_eq_true rfl) dX8_loopAround_58 ⟨Nat.le_of_ble_eq_true rfl, Nat.le_of_ble_eq_true rfl⟩ (fun r109008 er109009 => ?_)
                subst er109009
                refine ax_eqi (y := (pLt (P6 G)) lp) (rd_nat (n := 60) (j := lp) (by omega) (by decide)) ?_
                refine ax_iload_n hC 4 dX8_loopAround_61 rfl rfl ?_
                refine ax_icmp_ne (tgt := 76) hC dX8_loopAround_62 (by decide) (fun c109010 => ?_) (fun c109010 => ?_)
                · exact absurd hLc c109010
                · refine ax_iload_n hC 3 dX8_loopAround_65 rfl rfl ?_
                  refine ax_if_eq (tgt := 74) hC dX8_loopAround_66 (by decide) (fun c109011 => ?_) (fun c109011 => ?_)
                  · exact absurd c109011 (by decide)
                  · refine ax_iload hC 2 dX8_loopAround_69 rfl ?_
                    refine ax_goto (tgt := 75) hC dX8_loopAround_71 (by decide) ?_
                    refine ax_iret hC hr hlocks dX8_loopAround_75 ?_
                    exact ⟨rfl, rfl, rfl⟩
    | cons x pre ih =>
      intro t v mo ht hL hm
      obtain ⟨hv, hlb, hne, hL⟩ := hL
      subst hv
      simp only [List.length_cons] at ht
      refine ax_iload hC 0 dX8_loopAround_8 rfl ?_
      refine ax_bipush (v := 60) hC dX8_loopAround_10 (by decide) ?_
      refine ax_icmp_ge (tgt := 98) hC dX8_loopAround_12 (by decide) (fun c110001 => ?_) (fun c110001 => ?_)
      · exact absurd c110001 (by rw [i32_le, nI_toInt (by omega)]; have : (60 : Int32).toInt = 60 := (by decide); omega)
      · refine ax_iload hC 1 dX8_loopAround_15 rfl ?_
        refine ax_if_lt (tgt := 98) hC dX8_loopAround_17 (by decide) (fun c110002 => ?_) (fun c110002 => ?_)
        · exact absurd c110002 (nI_pos (by omega))
        · refine ax_iload hC 1 dX8_loopAround_20 rfl ?_
          refine ax_bipush (v := 60) hC dX8_loopAround_22 (by decide) ?_
          refine ax_icmp_ge (tgt := 98) hC dX8_loopAround_24 (by decide) (fun c110003 => ?_) (fun c110003 => ?_)
          · exact absurd c110003 (nI_ge (a := x) (b := 60) (by omega) (by decide))
          · refine ax_aload_n hC 4 dX8_loopAround_27 rfl rfl ?_
            refine ax_getf (v := .ref (rd + 1)) hC q0 iX8 rfl 0 (by decide) (by decide +kernel) rfl rfl dX8_loopAround_28 ?_
            refine ax_iload hC 1 dX8_loopAround_31 rfl ?_
            refine ax_callVp (st := []) hC [.int (nI x)] q1 rfl (c_X7_kindOf l D z B lo _ h (rd + 1) _ ((60, (pK (P6 G), pS (P6 G), pLt (P6 G), pLb (P6 G), pDp (P6 G), pIn (P6 G), pBr (P6 G), pSt (P6 G))) : PT) (nI x) ⟨q1, q2, q3, q4, q5, q6, q7, q8, q9⟩ (Nat.le_refl 60)) (cwV 1 hC.1.2.2.2.2 gX8_loopAround_X7_kindOf rfl rfl rfl (by decide +kernel) ⟨Nat.le_of_ble_eq_true rfl, Nat.le_of_ble_eq_true rfl⟩) rfl rfl (Nat.le_of_ble_eq_true rfl) dX8_loopAround_33 ⟨Nat.le_of_ble_eq_true rfl, Nat.le_of_ble_eq_true rfl⟩ (fun r110004 er110005 => ?_)
            subst er110005
            refine ax_eqi (y := (pK (P6 G)) x) (rd_nat (n := 60) (j := x) (by omega) (by decide)) ?_
            refine ax_iconst (v := 5) hC dX8_loopAround_36 (by decide) ?_
            refine ax_icmp_ne (tgt := 44) hC dX8_loopAround_37 (by decide) (fun c110006 => ?_) (fun c110006 => ?_)
            · refine ax_iconst (v := 0) hC dX8_loopAround_44 (by decide) ?_
              refine ax_istore hC [(6, .int 0), (5, .int (nI t)), (4, .int (nI x)), (3, .int mo), (2, .int c9), (0, .ref rd)] dX8_loopAround_45 (by decide) rfl ?_
              refine ax_iload hC 0 dX8_loopAround_47 rfl ?_
              refine ax_if_eq (tgt := 76) hC dX8_loopAround_49 (by decide) (fun c110007 => ?_) (fun c110007 => ?_)
              · refine ax_iload hC 0 dX8_loopAround_76 rfl ?_
                refine ax_if_ne (tgt := 83) hC dX8_loopAround_78 (by decide) (fun c110008 => ?_) (fun c110008 => ?_)
                · exact absurd c110008 (by decide)
                · refine ax_iconst (v := 1) hC dX8_loopAround_81 (by decide) ?_
                  refine ax_istore_n hC [(3, .int 1), (6, .int 0), (5, .int (nI t)), (4, .int (nI x)), (2, .int c9), (0, .ref rd)] dX8_loopAround_82 rfl (by decide) rfl ?_
                  refine ax_aload_n hC 5 dX8_loopAround_83 rfl rfl ?_
                  refine ax_getf (v := .ref (rd + 10)) hC q0 iX8 rfl 1 (by decide) (by decide +kernel) rfl rfl dX8_loopAround_84 ?_
                  refine ax_iload hC 3 dX8_loopAround_87 rfl ?_
                  have b110009 : vp_in (nI x) 60 := vp_in_nI (by omega) (by omega)
                  refine ax_iald hC q10 1 rfl b110009 dX8_loopAround_89 ?_
                  refine ax_eqi (y := Ar x) (by rw [nI_clamp (by omega)] <;> rfl) ?_
                  refine ax_istore hC [(4, .int (Ar x)), (3, .int 1), (6, .int 0), (5, .int (nI t)), (2, .int c9), (0, .ref rd)] dX8_loopAround_90 (by decide) rfl ?_
                  refine ax_iinc (v := nI (t + 1)) hC 3 [(5, .int (nI (t + 1))), (4, .int (Ar x)), (3, .int 1), (6, .int 0), (2, .int c9), (0, .ref rd)] dX8_loopAround_92 rfl (nI_1 _) (by decide) rfl ?_
                  refine ax_goto (tgt := 8) hC dX8_loopAround_95 (by decide) ?_
                  refine ax_locals [0, 1, 2, 4, 5] (L' := [(5, .int (nI (t + 1))), (4, .int (Ar x)), (3, .int 1), (2, .int c9), (0, .ref rd)]) rfl ?_
                  exact ih (t + 1) _ _ (by omega) hL (Or.inr rfl)
              · exact absurd c110007 (by decide)
            · refine ax_iconst (v := 1) hC dX8_loopAround_40 (by decide) ?_
              refine ax_goto (tgt := 45) hC dX8_loopAround_41 (by decide) ?_
              refine ax_istore hC [(6, .int 1), (5, .int (nI t)), (4, .int (nI x)), (3, .int mo), (2, .int c9), (0, .ref rd)] dX8_loopAround_45 (by decide) rfl ?_
              refine ax_iload hC 0 dX8_loopAround_47 rfl ?_
              refine ax_if_eq (tgt := 76) hC dX8_loopAround_49 (by decide) (fun c110011 => ?_) (fun c110011 => ?_)
              · exact absurd c110011 (by decide)
              · refine ax_aload_n hC 5 dX8_loopAround_52 rfl rfl ?_
                refine ax_getf (v := .ref (rd + 1)) hC q0 iX8 rfl 0 (by decide) (by decide +kernel) rfl rfl dX8_loopAround_53 ?_
                refine ax_iload hC 2 dX8_loopAround_56 rfl ?_
                refine ax_callVp (st := []) hC [.int (nI x)] q1 rfl (c_X7_letterOf l D z B lo _ h (rd + 1) _ ((60, (pK (P6 G), pS (P6 G), pLt (P6 G), pLb (P6 G), pDp (P6 G), pIn (P6 G), pBr (P6 G), pSt (P6 G))) : PT) (nI x) ⟨q1, q2, q3, q4, q5, q6, q7, q8, q9⟩ (Nat.le_refl 60)) (cwV 1 hC.1.2.2.2.2 gX8_loopAround_X7_letterOf rfl rfl rfl (by decide +kernel) ⟨Nat.le_of_ble_eq_true rfl, Nat.le_of_ble_eq_true rfl⟩) rfl rfl (Nat.le_of_ble_eq_true rfl) dX8_loopAround_58 ⟨Nat.le_of_ble_eq_true rfl, Nat.le_of_ble_eq_true rfl⟩ (fun r110012 er110013 => ?_)
                subst er110013
                refine ax_eqi (y := (pLt (P6 G)) x) (rd_nat (n := 60) (j := x) (by omega) (by decide)) ?_
                refine ax_iload_n hC 4 dX8_loopAround_61 rfl rfl ?_
                refine ax_icmp_ne (tgt := 76) hC dX8_loopAround_62 (by decide) (fun c110014 => ?_) (fun c110014 => ?_)
                · refine ax_iload hC 0 dX8_loopAround_76 rfl ?_
                  refine ax_if_ne (tgt := 83) hC dX8_loopAround_78 (by decide) (fun c110015 => ?_) (fun c110015 => ?_)
                  · refine ax_aload_n hC 5 dX8_loopAround_83 rfl rfl ?_
                    refine ax_getf (v := .ref (rd + 10)) hC q0 iX8 rfl 1 (by decide) (by decide +kernel) rfl rfl dX8_loopAround_84 ?_
                    refine ax_iload hC 2 dX8_loopAround_87 rfl ?_
                    have b110016 : vp_in (nI x) 60 := vp_in_nI (by omega) (by omega)
                    refine ax_iald hC q10 1 rfl b110016 dX8_loopAround_89 ?_
                    refine ax_eqi (y := Ar x) (by rw [nI_clamp (by omega)] <;> rfl) ?_
                    refine ax_istore hC [(4, .int (Ar x)), (6, .int 1), (5, .int (nI t)), (3, .int mo), (2, .int c9), (0, .ref rd)] dX8_loopAround_90 (by decide) rfl ?_
                    refine ax_iinc (v := nI (t + 1)) hC 2 [(5, .int (nI (t + 1))), (4, .int (Ar x)), (6, .int 1), (3, .int mo), (2, .int c9), (0, .ref rd)] dX8_loopAround_92 rfl (nI_1 _) (by decide) rfl ?_
                    refine ax_goto (tgt := 8) hC dX8_loopAround_95 (by decide) ?_
                    refine ax_locals [0, 1, 3, 4, 5] (L' := [(5, .int (nI (t + 1))), (4, .int (Ar x)), (3, .int mo), (2, .int c9), (0, .ref rd)]) rfl ?_
                    exact ih (t + 1) _ _ (by omega) hL (hm.imp_left (fun ⟨x9, hx9, hn9⟩ => ⟨x9, (List.mem_cons.mp hx9).resolve_left (fun e9 => hn9 (e9 ▸ c110006)), hn9⟩))
                  · exact absurd c110015 (by decide)
                · exact absurd c110014 (hne c110006)
  refine ax_iconst (v := 0) hC dX8_loopAround_0 (by decide) ?_
  refine ax_istore_n hC [(3, .int 0), (0, .ref rd), (1, .int v0), (2, .int c9)] dX8_loopAround_1 rfl (by decide) rfl ?_
  refine ax_iload_n hC 2 dX8_loopAround_2 rfl rfl ?_
  refine ax_istore hC [(4, .int v0), (3, .int 0), (0, .ref rd), (1, .int v0), (2, .int c9)] dX8_loopAround_3 (by decide) rfl ?_
  refine ax_iconst (v := 0) hC dX8_loopAround_5 (by decide) ?_
  refine ax_istore hC [(5, .int 0), (4, .int v0), (3, .int 0), (0, .ref rd), (1, .int v0), (2, .int c9)] dX8_loopAround_6 (by decide) rfl ?_
  refine ax_locals [0, 1, 2, 5, 3] (L' := [(5, .int 0), (4, .int v0), (3, .int 0), (2, .int c9), (0, .ref rd)]) rfl ?_
  exact LP pre 0 v0 0 (by omega) hL (Or.inl hm)

abbrev rmX8_link : Room := { frames := 0, cells := 0, slots := 0, locals := 0 }
set_option maxRecDepth 100000 in
set_option maxHeartbeats 4000000 in
theorem c_X8_link (l : Launch) (D : va_G) (z : Nat → ClassId) (B : Heap) (lo hi : Nat) (h : Nat → Option va_E) (rd tp ln ap b : Nat) (G : RT) (Ar tx : Nat → Int32) (nd nx : Nat) (hR : RdS z h rd tp ln ap b G Ar tx) (htp : tp < rd) (hnd : nd < 60) : Met l yX8_link wsX8_link rmX8_link (KP D vwCl B lo hi h (ty6 z) [.ref rd, .int (nI nd), .int (nI nx)]) (KQv D vwCl B lo (ty6 z) (fun hi' h' => hi' = hi ∧ (∀ q, (q < rd ∨ rd + 11 ≤ q) → h' q = h q) ∧ RdS z h' rd tp ln ap b (pK (P6 G), pS (P6 G), pLt (P6 G), pLb (P6 G), pDp (P6 G), pIn (P6 G), upd (pBr (P6 G)) (6 * nd) (nI nx), pSt (P6 G)) Ar tx)) 0 0 (fun q => lo ≤ q) := by
  obtain ⟨q0, q1, q2, q3, q4, q5, q6, q7, q8, q9, q10, q11⟩ := id hR
  refine ax_met (by decide) rfl (Nat.le_of_ble_eq_true rfl) (L0 := [(0, .ref rd), (1, .int (nI nd)), (2, .int (nI nx))]) rfl ?_
  intro p e s m args below meth c hC hr hlocks hnm hargs
  have iX7 : ∀ w ∈ u_ws RX7 TX7 9, w ∈ wsX8_link := by decide +kernel
  have iX8 : ∀ w ∈ u_ws RX8 TX8 5, w ∈ wsX8_link := by decide +kernel
  refine ax_iload_n hC 1 dX8_link_0 rfl rfl ?_
  refine ax_if_lt (tgt := 23) hC dX8_link_1 (by decide) (fun c1 => ?_) (fun c1 => ?_)
  · exact absurd c1 (nI_pos (by omega))
  · refine ax_iload_n hC 1 dX8_link_4 rfl rfl ?_
    refine ax_bipush (v := 60) hC dX8_link_5 (by decide) ?_
    refine ax_icmp_ge (tgt := 23) hC dX8_link_7 (by decide) (fun c2 => ?_) (fun c2 => ?_)
    · exact absurd c2 (nI_ge (a := nd) (b := 60) (by omega) (by decide))
    · refine ax_aload_n hC 0 dX8_link_10 rfl rfl ?_
      refine ax_getf (v := .ref (rd + 1)) hC q0 iX8 rfl 0 (by decide) (by decide +kernel) rfl rfl dX8_link_11 ?_
      refine ax_getf (v := .ref (rd + 8)) hC q1 iX7 rfl 7 (by decide) (by decide +kernel) rfl rfl dX8_link_14 ?_
      refine ax_iload_n hC 1 dX8_link_17 rfl rfl ?_
      refine ax_bipush (v := 6) hC dX8_link_18 (by decide) ?_
      refine ax_imul hC dX8_link_20 ?_
      refine ax_eqi (y := nI (6 * nd)) (by rw [Nat.mul_comm]; exact nI_mul' nd 6) ?_
      refine ax_iload_n hC 2 dX8_link_21 rfl rfl ?_
      have b3 : vp_in (nI (6 * nd)) 360 := vp_in_nI (by omega) (by omega)
      refine ax_iast hC q8 1 rfl b3 dX8_link_22 (fun h4 e5 f6 => ?_)
      rw [nI_clamp (by omega)] at e5
      have x7 : h4 rd = some (.inr (10, [.ref (rd + 1), .ref (rd + 10), .ref tp, .int (nI ln), .int (nI ap)])) := (f6 _ (by omega)).trans q0
      have x8 : h4 (rd + 1) = some (.inr (9, [.int (nI b), .ref (rd + 2), .ref (rd + 3), .ref (rd + 4), .ref (rd + 5), .ref (rd + 6), .ref (rd + 7), .ref (rd + 8), .ref (rd + 9)])) := (f6 _ (by omega)).trans q1
      have x9 : h4 (rd + 2) = some (.inl (z 1, 60, .inl (pK (P6 G)))) := (f6 _ (by omega)).trans q2
      have x10 : h4 (rd + 3) = some (.inl (z 1, 60, .inl (pS (P6 G)))) := (f6 _ (by omega)).trans q3
      have x11 : h4 (rd + 4) = some (.inl (z 1, 60, .inl (pLt (P6 G)))) := (f6 _ (by omega)).trans q4
      have x12 : h4 (rd + 5) = some (.inl (z 1, 60, .inl (pLb (P6 G)))) := (f6 _ (by omega)).trans q5
      have x13 : h4 (rd + 6) = some (.inl (z 1, 60, .inl (pDp (P6 G)))) := (f6 _ (by omega)).trans q6
      have x14 : h4 (rd + 7) = some (.inl (z 1, 60, .inl (pIn (P6 G)))) := (f6 _ (by omega)).trans q7
      have x15 : h4 (rd + 9) = some (.inl (z 1, 60, .inl (pSt (P6 G)))) := (f6 _ (by omega)).trans q9
      have x16 : h4 (rd + 10) = some (.inl (z 1, 60, .inl (Ar))) := (f6 _ (by omega)).trans q10
      have x17 : h4 tp = some (.inl (z 1, 200, .inl (tx))) := (f6 _ (by omega)).trans q11
      refine ax_vret hC hr hlocks dX8_link_23 ?_
      exact ⟨rfl, fun q hq => (f6 q (by omega)), ⟨x7, x8, x9, x10, x11, x12, x13, x14, e5, x15, x16, x17⟩⟩

abbrev rmX8_readLoop : Room := { frames := 2, cells := 0, slots := 0, locals := 41 }
set_option maxRecDepth 100000 in
set_option maxHeartbeats 4000000 in
theorem c_X8_readLoop (l : Launch) (D : va_G) (z : Nat → ClassId) (B : Heap) (lo hi : Nat) (h : Nat → Option va_E) (rd tp ln ap b : Nat) (G : RT) (Ar tx : Nat → Int32) (nd : Nat) (hR : RdS z h rd tp ln ap b G Ar tx) (htp : tp < rd) (hnd : nd < 60) (hat : ap + 1 < ln) (hln : ln ≤ 200) (hlt : isLt (tx ap) = 1) (hdot : tx (ap + 1) = 46) : Met l yX8_readLoop wsX8_readLoop rmX8_readLoop (KP D vwCl B lo hi h (ty6 z) [.ref rd, .int (nI nd)]) (KQi D vwCl B lo (ty6 z) (fun r hi' h' => r = 1 ∧ hi' = hi ∧ (∀ q, (q < rd ∨ rd + 11 ≤ q) → h' q = h q) ∧ RdS z h' rd tp ln (ap + 2) b (pK (P6 G), pS (P6 G), upd (pLt (P6 G)) nd (tx ap), pLb (P6 G), pDp (P6 G), pIn (P6 G), pBr (P6 G), pSt (P6 G)) Ar tx)) 0 0 (fun q => lo ≤ q) := by
  obtain ⟨q0, q1, q2, q3, q4, q5, q6, q7, q8, q9, q10, q11⟩ := id hR
  refine ax_met (by decide) rfl (Nat.le_of_ble_eq_true rfl) (L0 := [(0, .ref rd), (1, .int (nI nd))]) rfl ?_
  intro p e s m args below meth c hC hr hlocks hnm hargs
  have iX7 : ∀ w ∈ u_ws RX7 TX7 9, w ∈ wsX8_readLoop := by decide +kernel
  have iX8 : ∀ w ∈ u_ws RX8 TX8 5, w ∈ wsX8_readLoop := by decide +kernel
  refine ax_iload_n hC 1 dX8_readLoop_0 rfl rfl ?_
  refine ax_if_lt (tgt := 20) hC dX8_readLoop_1 (by decide) (fun c1 => ?_) (fun c1 => ?_)
  · exact absurd c1 (nI_pos (by omega))
  · refine ax_iload_n hC 1 dX8_readLoop_4 rfl rfl ?_
    refine ax_bipush (v := 60) hC dX8_readLoop_5 (by decide) ?_
    refine ax_icmp_ge (tgt := 20) hC dX8_readLoop_7 (by decide) (fun c2 => ?_) (fun c2 => ?_)
    · exact absurd c2 (nI_ge (a := nd) (b := 60) (by omega) (by decide))
    · refine ax_aload_n hC 0 dX8_readLoop_10 rfl rfl ?_
      refine ax_callVp (st := []) hC [] q0 rfl (c_X8_sign l D z B lo _ h rd tp ln ap b G Ar tx hR htp (by omega) (by omega)) (cwV 0 hC.1.2.2.2.2 gX8_readLoop_X8_sign rfl rfl rfl (by decide +kernel) ⟨Nat.le_of_ble_eq_true rfl, Nat.le_of_ble_eq_true rfl⟩) rfl rfl (Nat.le_of_ble_eq_true rfl) dX8_readLoop_11 ⟨Nat.le_of_ble_eq_true rfl, Nat.le_of_ble_eq_true rfl⟩ (fun r3 er4 => ?_)
      subst er4
      refine ax_callSp (st := []) hC [.int (tx ap)] (c_X8_isLetter l D z B lo _ h (tx ap)) (va_cwS 1 hC.1.2.2.2.2 gX8_readLoop_X8_isLetter rfl rfl rfl (by decide +kernel) ⟨Nat.le_of_ble_eq_true rfl, Nat.le_of_ble_eq_true rfl⟩) rfl rfl (Nat.le_of_ble_eq_true rfl) dX8_readLoop_14 ⟨Nat.le_of_ble_eq_true rfl, Nat.le_of_ble_eq_true rfl⟩ (fun r5 er6 => ?_)
      subst er6
      refine ax_eqi (y := 1) (hlt) ?_
      refine ax_if_ne (tgt := 22) hC dX8_readLoop_17 (by decide) (fun c7 => ?_) (fun c7 => ?_)
      · refine ax_aload_n hC 0 dX8_readLoop_22 rfl rfl ?_
        refine ax_getf (v := .ref (rd + 1)) hC q0 iX8 rfl 0 (by decide) (by decide +kernel) rfl rfl dX8_readLoop_23 ?_
        refine ax_getf (v := .ref (rd + 4)) hC q1 iX7 rfl 3 (by decide) (by decide +kernel) rfl rfl dX8_readLoop_26 ?_
        refine ax_iload_n hC 1 dX8_readLoop_29 rfl rfl ?_
        refine ax_aload_n hC 0 dX8_readLoop_30 rfl rfl ?_
        refine ax_callVp (st := [.int (nI nd), .ref (rd + 4)]) hC [] q0 rfl (c_X8_sign l D z B lo _ h rd tp ln ap b G Ar tx hR htp (by omega) (by omega)) (cwV 0 hC.1.2.2.2.2 gX8_readLoop_X8_sign rfl rfl rfl (by decide +kernel) ⟨Nat.le_of_ble_eq_true rfl, Nat.le_of_ble_eq_true rfl⟩) rfl rfl (Nat.le_of_ble_eq_true rfl) dX8_readLoop_31 ⟨Nat.le_of_ble_eq_true rfl, Nat.le_of_ble_eq_true rfl⟩ (fun r8 er9 => ?_)
        subst er9
        have b10 : vp_in (nI nd) 60 := vp_in_nI (by omega) (by omega)
        refine ax_iast hC q4 1 rfl b10 dX8_readLoop_34 (fun h11 e12 f13 => ?_)
        rw [nI_clamp (by omega)] at e12
        have x14 : h11 rd = some (.inr (10, [.ref (rd + 1), .ref (rd + 10), .ref tp, .int (nI ln), .int (nI ap)])) := (f13 _ (by omega)).trans q0
        have x15 : h11 (rd + 1) = some (.inr (9, [.int (nI b), .ref (rd + 2), .ref (rd + 3), .ref (rd + 4), .ref (rd + 5), .ref (rd + 6), .ref (rd + 7), .ref (rd + 8), .ref (rd + 9)])) := (f13 _ (by omega)).trans q1
        have x16 : h11 (rd + 2) = some (.inl (z 1, 60, .inl (pK (P6 G)))) := (f13 _ (by omega)).trans q2
        have x17 : h11 (rd + 3) = some (.inl (z 1, 60, .inl (pS (P6 G)))) := (f13 _ (by omega)).trans q3
        have x18 : h11 (rd + 5) = some (.inl (z 1, 60, .inl (pLb (P6 G)))) := (f13 _ (by omega)).trans q5
        have x19 : h11 (rd + 6) = some (.inl (z 1, 60, .inl (pDp (P6 G)))) := (f13 _ (by omega)).trans q6
        have x20 : h11 (rd + 7) = some (.inl (z 1, 60, .inl (pIn (P6 G)))) := (f13 _ (by omega)).trans q7
        have x21 : h11 (rd + 8) = some (.inl (z 1, 360, .inl (pBr (P6 G)))) := (f13 _ (by omega)).trans q8
        have x22 : h11 (rd + 9) = some (.inl (z 1, 60, .inl (pSt (P6 G)))) := (f13 _ (by omega)).trans q9
        have x23 : h11 (rd + 10) = some (.inl (z 1, 60, .inl (Ar))) := (f13 _ (by omega)).trans q10
        have x24 : h11 tp = some (.inl (z 1, 200, .inl (tx))) := (f13 _ (by omega)).trans q11
        refine ax_aload_n hC 0 dX8_readLoop_35 rfl rfl ?_
        refine ax_dup hC dX8_readLoop_36 rfl ?_
        refine ax_getf (v := .int (nI ap)) hC x14 iX8 rfl 4 (by decide) (by decide +kernel) rfl rfl dX8_readLoop_37 ?_
        refine ax_iconst (v := 1) hC dX8_readLoop_40 (by decide) ?_
        refine ax_iadd hC dX8_readLoop_41 ?_
        refine ax_eqi (y := nI (ap + 1)) (nI_1 ap) ?_
        refine ax_putf (v := .int (nI (ap + 1))) (ty := .int) hC tyX8 x14 iX8 tyX8_ok nmX8 rfl 4 (by decide) (by decide +kernel) rfl rfl (by decide +kernel) (rfl) rfl (Nat.le_of_ble_eq_true rfl) dX8_readLoop_42 (fun h25 e26 f27 => ?_)
        have e26 : h25 rd = some (.inr (10, [.ref (rd + 1), .ref (rd + 10), .ref tp, .int (nI ln), .int (nI (ap + 1))])) := e26
        have x28 : h25 (rd + 1) = some (.inr (9, [.int (nI b), .ref (rd + 2), .ref (rd + 3), .ref (rd + 4), .ref (rd + 5), .ref (rd + 6), .ref (rd + 7), .ref (rd + 8), .ref (rd + 9)])) := (f27 _ (by omega)).trans x15
        have x29 : h25 (rd + 2) = some (.inl (z 1, 60, .inl (pK (P6 G)))) := (f27 _ (by omega)).trans x16
        have x30 : h25 (rd + 3) = some (.inl (z 1, 60, .inl (pS (P6 G)))) := (f27 _ (by omega)).trans x17
        have x31 : h25 (rd + 5) = some (.inl (z 1, 60, .inl (pLb (P6 G)))) := (f27 _ (by omega)).trans x18
        have x32 : h25 (rd + 6) = some (.inl (z 1, 60, .inl (pDp (P6 G)))) := (f27 _ (by omega)).trans x19
        have x33 : h25 (rd + 7) = some (.inl (z 1, 60, .inl (pIn (P6 G)))) := (f27 _ (by omega)).trans x20
        have x34 : h25 (rd + 8) = some (.inl (z 1, 360, .inl (pBr (P6 G)))) := (f27 _ (by omega)).trans x21
        have x35 : h25 (rd + 9) = some (.inl (z 1, 60, .inl (pSt (P6 G)))) := (f27 _ (by omega)).trans x22
        have x36 : h25 (rd + 10) = some (.inl (z 1, 60, .inl (Ar))) := (f27 _ (by omega)).trans x23
        have x37 : h25 tp = some (.inl (z 1, 200, .inl (tx))) := (f27 _ (by omega)).trans x24
        have x38 : h25 (rd + 4) = some (.inl (z 1, 60, .inl (upd (pLt (P6 G)) nd (tx ap)))) := (f27 _ (by omega)).trans e12
        refine ax_aload_n hC 0 dX8_readLoop_45 rfl rfl ?_
        refine ax_bipush (v := 46) hC dX8_readLoop_46 (by decide) ?_
        have hR39 : RdS z h25 rd tp ln (ap + 1) b (pK (P6 G), pS (P6 G), upd (pLt (P6 G)) nd (tx ap), pLb (P6 G), pDp (P6 G), pIn (P6 G), pBr (P6 G), pSt (P6 G)) Ar tx := ⟨e26, x28, x29, x30, x38, x31, x32, x33, x34, x35, x36, x37⟩
        refine ax_callVi (st := []) hC [.int 46] e26 rfl (c_X8_goesOn_y l D z B lo _ h25 rd tp ln (ap + 1) b ((pK (P6 G), pS (P6 G), upd (pLt (P6 G)) nd (tx ap), pLb (P6 G), pDp (P6 G), pIn (P6 G), pBr (P6 G), pSt (P6 G))) Ar tx hR39 htp 46 (by omega) (by omega) hdot) (cwV 1 hC.1.2.2.2.2 gX8_readLoop_X8_goesOn rfl rfl rfl (by decide +kernel) ⟨Nat.le_of_ble_eq_true rfl, Nat.le_of_ble_eq_true rfl⟩) rfl rfl (Nat.le_of_ble_eq_true rfl) dX8_readLoop_48 ⟨Nat.le_of_ble_eq_true rfl, Nat.le_of_ble_eq_true rfl⟩ (fun r40 hi41 h42 hp43 => ?_)
        obtain ⟨er44, ei45, fr46, hR47⟩ := hp43
        replace ei45 := ei45.symm
        subst ei45
        subst er44
        obtain ⟨y48_0, y48_1, y48_2, y48_3, y48_4, y48_5, y48_6, y48_7, y48_8, y48_9, y48_10, y48_11⟩ := id hR47
        refine ax_zret hC hr hlocks dX8_readLoop_51 (by decide) ?_
        exact ⟨rfl, rfl, fun q hq => ((fr46 q (by omega)).trans ((f27 q (by omega)).trans (f13 q (by omega)))), ⟨y48_0, y48_1, y48_2, y48_3, y48_4, y48_5, y48_6, y48_7, y48_8, y48_9, y48_10, y48_11⟩⟩
      · exact absurd c7 (by decide)
