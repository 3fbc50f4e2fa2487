/-- a READER at rest -/
def RdI (z : Nat → ClassId) (h : Nat → Option va_E) (rd : Nat) : Prop := ∃ (t0 : Nat) (x1 x2 x3 : Int32) (G : RT) (Ar : Nat → Int32), h rd = some (.inr (10, [.ref (rd + 1), .ref (rd + 10), .ref t0, .int x1, .int x2])) ∧ h (rd + 1) = some (.inr (9, [.int x3, .ref (rd + 2), .ref (rd + 3), .ref (rd + 4), .ref (rd + 5), .ref (rd + 6), .ref (rd + 7), .ref (rd + 8), .ref (rd + 9)])) ∧ h (rd + 2) = some (.inl (z 1, 60, .inl (pK (P6 G)))) ∧ h (rd + 3) = some (.inl (z 1, 60, .inl (pS (P6 G)))) ∧ h (rd + 4) = some (.inl (z 1, 60, .inl (pLt (P6 G)))) ∧ h (rd + 5) = some (.inl (z 1, 60, .inl (pLb (P6 G)))) ∧ h (rd + 6) = some (.inl (z 1, 60, .inl (pDp (P6 G)))) ∧ h (rd + 7) = some (.inl (z 1, 60, .inl (pIn (P6 G)))) ∧ h (rd + 8) = some (.inl (z 1, 360, .inl (pBr (P6 G)))) ∧ h (rd + 9) = some (.inl (z 1, 60, .inl (pSt (P6 G)))) ∧ h (rd + 10) = some (.inl (z 1, 60, .inl Ar))
theorem RdS.rest {z : Nat → ClassId} {h : Nat → Option va_E} {rd tp ln ap b : Nat} {G : RT} {Ar tx : Nat → Int32} (q : RdS z h rd tp ln ap b G Ar tx) : RdI z h rd := by
  obtain ⟨q0, q1, q2, q3, q4, q5, q6, q7, q8, q9, q10, -⟩ := q
  exact ⟨tp, _, _, _, G, Ar, q0, q1, q2, q3, q4, q5, q6, q7, q8, q9, q10⟩
theorem RdI.kept {z : Nat → ClassId} {h h' : Nat → Option va_E} {rd : Nat} (q : RdI z h rd) (hf : ∀ q, rd ≤ q → q < rd + 11 → h' q = h q) : RdI z h' rd := by
  obtain ⟨t0, x1, x2, x3, G, Ar, q0, q1, q2, q3, q4, q5, q6, q7, q8, q9, q10⟩ := q
  exact ⟨t0, x1, x2, x3, G, Ar, (hf _ (by omega) (by omega)).trans q0, (hf _ (by omega) (by omega)).trans q1, (hf _ (by omega) (by omega)).trans q2, (hf _ (by omega) (by omega)).trans q3, (hf _ (by omega) (by omega)).trans q4, (hf _ (by omega) (by omega)).trans q5, (hf _ (by omega) (by omega)).trans q6, (hf _ (by omega) (by omega)).trans q7, (hf _ (by omega) (by omega)).trans q8, (hf _ (by omega) (by omega)).trans q9, (hf _ (by omega) (by omega)).trans q10⟩
theorem AtT.setSt {G : RT} {n : Nat} {w : Bool} {k : Nat} {T : Tre} {d b : Nat} {E : Nat → Nat} (h : AtT (P6 G) n w k T d b E) (St : Nat → Int32) : AtT (P6 (pK (P6 G), pS (P6 G), pLt (P6 G), pLb (P6 G), pDp (P6 G), pIn (P6 G), pBr (P6 G), St)) n w k T d b E :=
  AtT.kept (F := P6 G) (r := b) (c := b + siz n w T) (F' := P6 (pK (P6 G), pS (P6 G), pLt (P6 G), pLb (P6 G), pDp (P6 G), pIn (P6 G), pBr (P6 G), St)) ⟨fun _ _ _ => ⟨rfl, rfl, rfl, rfl, rfl, rfl⟩, fun _ _ _ => rfl⟩ h (Nat.le_refl _) (Nat.le_refl _)
/-- what a made text's reading leaves in the draft -/
def RdDone (n : Nat) (w : Bool) (T : Tre) (G : RT) : Prop := AtT (P6 G) n w 0 T 0 0 (fun _ => 0) ∧ ∀ i, i < siz n w T → pSt (P6 G) i = nI (sgm (P6 G) i)
abbrev rmX8_read : Room := { frames := 30, cells := 0, slots := 0, locals := 1400 }
set_option maxRecDepth 100000 in
set_option maxHeartbeats 4000000 in
theorem c_X8_read (l : Launch) (D : va_G) (z : Nat → ClassId) (B : Heap) (lo hi : Nat) (h : Nat → Option va_E) (rd tp ln nv : Nat) (w9 : Bool) (T : Tre) (tx : Nat → Int32) (hI : RdI z h rd) (htp : tp < rd) (htx0 : h tp = some (.inl (z 1, 200, .inl tx))) (hok : okT nv 0 T) (htx : TxA tx 0 (txt nv w9 0 T)) (hlen : (txt nv w9 0 T).length = ln) (hln : ln ≤ 200) (hsz : siz nv w9 T ≤ 60) (hnv : nv ≤ 4) : Met l yX8_read wsX8_read rmX8_read (KP D vwCl B lo hi h (ty6 z) [.ref rd, .ref tp, .int (nI ln)]) (KQi D vwCl B lo (ty6 z) (fun r hi' h' => r = -1 ∧ hi' = hi ∧ (∀ q, (q < rd ∨ rd + 11 ≤ q) → h' q = h q) ∧ ∃ G' Ar', RdS z h' rd tp ln ln (siz nv w9 T) G' Ar' tx ∧ RdDone nv w9 T G')) 0 0 (fun q => lo ≤ q) := by
  obtain ⟨t0, x1, x2, x3, G, Ar, q0, q1, q2, q3, q4, q5, q6, q7, q8, q9, q10⟩ := hI
  refine ax_met (by decide) rfl (Nat.le_of_ble_eq_true rfl) (L0 := [(0, .ref rd), (1, .ref tp), (2, .int (nI ln))]) rfl ?_
  intro p e s m args below meth c hC hr hlocks hnm hargs
  have iX7 : ∀ w ∈ u_ws RX7 TX7 9, w ∈ wsX8_read := by decide +kernel
  have iX8 : ∀ w ∈ u_ws RX8 TX8 5, w ∈ wsX8_read := by decide +kernel
  refine ax_aload_n hC 0 dX8_read_0 rfl rfl ?_
  refine ax_aload_n hC 1 dX8_read_1 rfl rfl ?_
  refine ax_putf (v := .ref tp) (ty := .array .int) hC tyX8 q0 iX8 tyX8_ok nmX8 rfl 2 (by decide) (by decide +kernel) rfl rfl (by decide +kernel) (rfl) rfl (Nat.le_of_ble_eq_true rfl) dX8_read_2 (fun h1 e2 f3 => ?_)
  have e2 : h1 rd = some (.inr (10, [.ref (rd + 1), .ref (rd + 10), .ref tp, .int x1, .int x2])) := e2
  have x4 : h1 (rd + 1) = some (.inr (9, [.int x3, .ref (rd + 2), .ref (rd + 3), .ref (rd + 4), .ref (rd + 5), .ref (rd + 6), .ref (rd + 7), .ref (rd + 8), .ref (rd + 9)])) := (f3 _ (by omega)).trans q1
  have x5 : h1 (rd + 2) = some (.inl (z 1, 60, .inl (pK (P6 G)))) := (f3 _ (by omega)).trans q2
  have x6 : h1 (rd + 3) = some (.inl (z 1, 60, .inl (pS (P6 G)))) := (f3 _ (by omega)).trans q3
  have x7 : h1 (rd + 4) = some (.inl (z 1, 60, .inl (pLt (P6 G)))) := (f3 _ (by omega)).trans q4
  have x8 : h1 (rd + 5) = some (.inl (z 1, 60, .inl (pLb (P6 G)))) := (f3 _ (by omega)).trans q5
  have x9 : h1 (rd + 6) = some (.inl (z 1, 60, .inl (pDp (P6 G)))) := (f3 _ (by omega)).trans q6
  have x10 : h1 (rd + 7) = some (.inl (z 1, 60, .inl (pIn (P6 G)))) := (f3 _ (by omega)).trans q7
  have x11 : h1 (rd + 8) = some (.inl (z 1, 360, .inl (pBr (P6 G)))) := (f3 _ (by omega)).trans q8
  have x12 : h1 (rd + 9) = some (.inl (z 1, 60, .inl (pSt (P6 G)))) := (f3 _ (by omega)).trans q9
  have x13 : h1 (rd + 10) = some (.inl (z 1, 60, .inl (Ar))) := (f3 _ (by omega)).trans q10
  have x14 : h1 tp = some (.inl (z 1, 200, .inl (tx))) := (f3 _ (by omega)).trans htx0
  refine ax_aload_n hC 0 dX8_read_5 rfl rfl ?_
  refine ax_iload_n hC 2 dX8_read_6 rfl rfl ?_
  refine ax_aload_n hC 1 dX8_read_7 rfl rfl ?_
  refine ax_alen (v := 200) hC x14 1 rfl rfl dX8_read_8 ?_
  refine ax_mmin hC (by decide +kernel) (by decide +kernel) (by decide +kernel) (by decide +kernel) (Nat.le_of_ble_eq_true rfl) (Nat.le_of_ble_eq_true rfl) (Nat.le_of_ble_eq_true rfl) (Nat.le_of_ble_eq_true rfl) dX8_read_9 ?_
  refine ax_eqi (y := nI ln) (if_neg (nI_nlt (a := 200) (b := ln) (by omega) (by decide))) ?_
  refine ax_putf (v := .int (nI ln)) (ty := .int) hC tyX8 e2 iX8 tyX8_ok nmX8 rfl 3 (by decide) (by decide +kernel) rfl rfl (by decide +kernel) (rfl) rfl (Nat.le_of_ble_eq_true rfl) dX8_read_12 (fun h15 e16 f17 => ?_)
  have e16 : h15 rd = some (.inr (10, [.ref (rd + 1), .ref (rd + 10), .ref tp, .int (nI ln), .int x2])) := e16
  have x18 : h15 (rd + 1) = some (.inr (9, [.int x3, .ref (rd + 2), .ref (rd + 3), .ref (rd + 4), .ref (rd + 5), .ref (rd + 6), .ref (rd + 7), .ref (rd + 8), .ref (rd + 9)])) := (f17 _ (by omega)).trans x4
  have x19 : h15 (rd + 2) = some (.inl (z 1, 60, .inl (pK (P6 G)))) := (f17 _ (by omega)).trans x5
  have x20 : h15 (rd + 3) = some (.inl (z 1, 60, .inl (pS (P6 G)))) := (f17 _ (by omega)).trans x6
  have x21 : h15 (rd + 4) = some (.inl (z 1, 60, .inl (pLt (P6 G)))) := (f17 _ (by omega)).trans x7
  have x22 : h15 (rd + 5) = some (.inl (z 1, 60, .inl (pLb (P6 G)))) := (f17 _ (by omega)).trans x8
  have x23 : h15 (rd + 6) = some (.inl (z 1, 60, .inl (pDp (P6 G)))) := (f17 _ (by omega)).trans x9
  have x24 : h15 (rd + 7) = some (.inl (z 1, 60, .inl (pIn (P6 G)))) := (f17 _ (by omega)).trans x10
  have x25 : h15 (rd + 8) = some (.inl (z 1, 360, .inl (pBr (P6 G)))) := (f17 _ (by omega)).trans x11
  have x26 : h15 (rd + 9) = some (.inl (z 1, 60, .inl (pSt (P6 G)))) := (f17 _ (by omega)).trans x12
  have x27 : h15 (rd + 10) = some (.inl (z 1, 60, .inl (Ar))) := (f17 _ (by omega)).trans x13
  have x28 : h15 tp = some (.inl (z 1, 200, .inl (tx))) := (f17 _ (by omega)).trans x14
  refine ax_aload_n hC 0 dX8_read_15 rfl rfl ?_
  refine ax_iconst (v := 0) hC dX8_read_16 (by decide) ?_
  refine ax_putf (v := .int 0) (ty := .int) hC tyX8 e16 iX8 tyX8_ok nmX8 rfl 4 (by decide) (by decide +kernel) rfl rfl (by decide +kernel) (rfl) rfl (Nat.le_of_ble_eq_true rfl) dX8_read_17 (fun h29 e30 f31 => ?_)
  have e30 : h29 rd = some (.inr (10, [.ref (rd + 1), .ref (rd + 10), .ref tp, .int (nI ln), .int 0])) := e30
  have x32 : h29 (rd + 1) = some (.inr (9, [.int x3, .ref (rd + 2), .ref (rd + 3), .ref (rd + 4), .ref (rd + 5), .ref (rd + 6), .ref (rd + 7), .ref (rd + 8), .ref (rd + 9)])) := (f31 _ (by omega)).trans x18
  have x33 : h29 (rd + 2) = some (.inl (z 1, 60, .inl (pK (P6 G)))) := (f31 _ (by omega)).trans x19
  have x34 : h29 (rd + 3) = some (.inl (z 1, 60, .inl (pS (P6 G)))) := (f31 _ (by omega)).trans x20
  have x35 : h29 (rd + 4) = some (.inl (z 1, 60, .inl (pLt (P6 G)))) := (f31 _ (by omega)).trans x21
  have x36 : h29 (rd + 5) = some (.inl (z 1, 60, .inl (pLb (P6 G)))) := (f31 _ (by omega)).trans x22
  have x37 : h29 (rd + 6) = some (.inl (z 1, 60, .inl (pDp (P6 G)))) := (f31 _ (by omega)).trans x23
  have x38 : h29 (rd + 7) = some (.inl (z 1, 60, .inl (pIn (P6 G)))) := (f31 _ (by omega)).trans x24
  have x39 : h29 (rd + 8) = some (.inl (z 1, 360, .inl (pBr (P6 G)))) := (f31 _ (by omega)).trans x25
  have x40 : h29 (rd + 9) = some (.inl (z 1, 60, .inl (pSt (P6 G)))) := (f31 _ (by omega)).trans x26
  have x41 : h29 (rd + 10) = some (.inl (z 1, 60, .inl (Ar))) := (f31 _ (by omega)).trans x27
  have x42 : h29 tp = some (.inl (z 1, 200, .inl (tx))) := (f31 _ (by omega)).trans x28
  refine ax_aload_n hC 0 dX8_read_20 rfl rfl ?_
  refine ax_getf (v := .ref (rd + 1)) hC e30 iX8 rfl 0 (by decide) (by decide +kernel) rfl rfl dX8_read_21 ?_
  refine ax_iconst (v := 0) hC dX8_read_24 (by decide) ?_
  refine ax_putf (v := .int 0) (ty := .int) hC tyX7 x32 iX7 tyX7_ok nmX7 rfl 0 (by decide) (by decide +kernel) rfl rfl (by decide +kernel) (rfl) rfl (Nat.le_of_ble_eq_true rfl) dX8_read_25 (fun h43 e44 f45 => ?_)
  have e44 : h43 (rd + 1) = some (.inr (9, [.int 0, .ref (rd + 2), .ref (rd + 3), .ref (rd + 4), .ref (rd + 5), .ref (rd + 6), .ref (rd + 7), .ref (rd + 8), .ref (rd + 9)])) := e44
  have x46 : h43 (rd + 2) = some (.inl (z 1, 60, .inl (pK (P6 G)))) := (f45 _ (by omega)).trans x33
  have x47 : h43 (rd + 3) = some (.inl (z 1, 60, .inl (pS (P6 G)))) := (f45 _ (by omega)).trans x34
  have x48 : h43 (rd + 4) = some (.inl (z 1, 60, .inl (pLt (P6 G)))) := (f45 _ (by omega)).trans x35
  have x49 : h43 (rd + 5) = some (.inl (z 1, 60, .inl (pLb (P6 G)))) := (f45 _ (by omega)).trans x36
  have x50 : h43 (rd + 6) = some (.inl (z 1, 60, .inl (pDp (P6 G)))) := (f45 _ (by omega)).trans x37
  have x51 : h43 (rd + 7) = some (.inl (z 1, 60, .inl (pIn (P6 G)))) := (f45 _ (by omega)).trans x38
  have x52 : h43 (rd + 8) = some (.inl (z 1, 360, .inl (pBr (P6 G)))) := (f45 _ (by omega)).trans x39
  have x53 : h43 (rd + 9) = some (.inl (z 1, 60, .inl (pSt (P6 G)))) := (f45 _ (by omega)).trans x40
  have x54 : h43 (rd + 10) = some (.inl (z 1, 60, .inl (Ar))) := (f45 _ (by omega)).trans x41
  have x55 : h43 tp = some (.inl (z 1, 200, .inl (tx))) := (f45 _ (by omega)).trans x42
  have x56 : h43 rd = some (.inr (10, [.ref (rd + 1), .ref (rd + 10), .ref tp, .int (nI ln), .int 0])) := (f45 _ (by omega)).trans e30
  refine ax_aload_n hC 0 dX8_read_28 rfl rfl ?_
  refine ax_iconst (v := (-1)) hC dX8_read_29 (by decide) ?_
  refine ax_iconst (v := 0) hC dX8_read_30 (by decide) ?_
  refine ax_iconst (v := 0) hC dX8_read_31 (by decide) ?_
  have hR57 : RdS z h43 rd tp ln 0 0 G Ar tx := ⟨x56, e44, x46, x47, x48, x49, x50, x51, x52, x53, x54, x55⟩
  refine ax_callVi (st := []) hC [.int (-1), .int 0, .int 0] x56 rfl (TalkC_all nv w9 0 T (fun _ => 0) 0 0 (-1) l D z B lo _ h43 rd tp ln 0 0 G Ar tx hR57 htp hok LpsOK.none htx (by omega) hln (by omega) (by omega)) (cwV 3 hC.1.2.2.2.2 gX8_read_X8_readTalk rfl rfl rfl (by decide +kernel) ⟨show 10 + 3 * nv + 1 ≤ 30 by omega, show 8 + (8 + 11) + (400 + 200 * nv) ≤ 1400 by omega⟩) rfl rfl (Nat.le_of_ble_eq_true rfl) dX8_read_32 ⟨Nat.le_of_ble_eq_true rfl, Nat.le_of_ble_eq_true rfl⟩ (fun r58 hi59 h60 hp61 => ?_)
  obtain ⟨er62, ei63, fr64, G65, A66, hR67, he68, ha69, ht70⟩ := hp61
  replace ei63 := ei63.symm
  subst ei63
  subst er62
  rw [Nat.zero_add, Nat.zero_add, hlen] at hR67
  obtain ⟨y71_0, y71_1, y71_2, y71_3, y71_4, y71_5, y71_6, y71_7, y71_8, y71_9, y71_10, y71_11⟩ := id hR67
  refine ax_if_lt (tgt := 49) hC dX8_read_35 (by decide) (fun c72 => ?_) (fun c72 => ?_)
  · exact absurd c72 (by decide)
  · refine ax_aload_n hC 0 dX8_read_38 rfl rfl ?_
    refine ax_getf (v := .int (nI ln)) hC y71_0 iX8 rfl 4 (by decide) (by decide +kernel) rfl rfl dX8_read_39 ?_
    refine ax_aload_n hC 0 dX8_read_42 rfl rfl ?_
    refine ax_getf (v := .int (nI ln)) hC y71_0 iX8 rfl 3 (by decide) (by decide +kernel) rfl rfl dX8_read_43 ?_
    refine ax_icmp_ge (tgt := 54) hC dX8_read_46 (by decide) (fun c73 => ?_) (fun c73 => ?_)
    · refine ax_aload_n hC 0 dX8_read_54 rfl rfl ?_
      refine ax_callVv (st := []) hC [] y71_0 rfl (c_X8_settle l D z B lo _ h60 rd tp ln ln (siz nv w9 T) G65 A66 tx hR67 htp hsz (fun i hi9 => (rows_ok ht70 hok (by omega) (by omega) (fun j hj => absurd hj (by omega)) i (Nat.zero_le _) (by omega)).chO hsz)) (cwV 0 hC.1.2.2.2.2 gX8_read_X8_settle rfl rfl rfl (by decide +kernel) ⟨Nat.le_of_ble_eq_true rfl, Nat.le_of_ble_eq_true rfl⟩) rfl rfl (Nat.le_of_ble_eq_true rfl) dX8_read_55 ⟨Nat.le_of_ble_eq_true rfl, Nat.le_of_ble_eq_true rfl⟩ (fun hi74 h75 hp76 => ?_)
      obtain ⟨ei77, fr78, St79, hR80, hst81⟩ := hp76
      replace ei77 := ei77.symm
      subst ei77
      refine ax_iconst (v := (-1)) hC dX8_read_58 (by decide) ?_
      refine ax_iret hC hr hlocks dX8_read_59 ?_
      exact ⟨rfl, rfl, fun q hq => ((fr78 q (by omega)).trans ((fr64 q (by omega)).trans ((f45 q (by omega)).trans ((f31 q (by omega)).trans ((f17 q (by omega)).trans (f3 q (by omega))))))), _, _, hR80, ht70.setSt St79, hst81⟩
    · exact absurd (Int32.le_refl _) c73
