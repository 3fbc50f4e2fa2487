/-- the STATE for which a NODE stands -/
def sgm (F : PT) (i : Nat) : Nat := if pK F i = 5 then i + 1 else if pK F i = 6 then (pBr F (6 * i)).toNatClampNeg + 1 else i
theorem branchf_nat {Br : Nat → Int32} {i : Nat} (hi : i < 60) : branchf 60 Br (nI i) 0 = Br (6 * i) := by
  have h0 : (0 : Int32).toInt = 0 := by decide
  rw [branchf, nI_toInt (by omega), h0, if_pos ⟨by omega, by omega, by omega, by omega⟩]
  congr 1; omega
theorem le4_of {x : Int32} (h : x = 0 ∨ x = 1 ∨ x = 2 ∨ x = 3 ∨ x = 4) : x ≤ 4 := by
  rcases h with rfl | rfl | rfl | rfl | rfl <;> decide
/-- how a NODE leads to its STATE -/
def ChO (F : PT) (N i : Nat) : Prop := (pK F i ≤ 4 ∧ sgm F i = i) ∨ (pK F i = 5 ∧ i + 1 < N ∧ pBr F (6 * i) = nI (i + 1) ∧ pK F (i + 1) ≤ 4 ∧ sgm F i = i + 1) ∨ (pK F i = 6 ∧ ∃ l, l + 1 < N ∧ pBr F (6 * i) = nI l ∧ pK F l = 5 ∧ pBr F (6 * l) = nI (l + 1) ∧ pK F (l + 1) ≤ 4 ∧ sgm F i = l + 1)
theorem RowOK.chO {F : PT} {N i : Nat} (h : RowOK F N i) (hN : N ≤ 60) : ChO F N i := by
  rcases h with ⟨a, -⟩ | ⟨a, -⟩ | ⟨a, -⟩ | ⟨a, -, -, b⟩ | ⟨a, -, -, l, b1, b2, b3⟩
  · exact Or.inl ⟨by rw [a]; decide, by rw [sgm, a]; rfl⟩
  · rcases a with a | a <;> exact Or.inl ⟨by rw [a]; decide, by rw [sgm, a]; rfl⟩
  · rcases a with a | a <;> exact Or.inl ⟨by rw [a]; decide, by rw [sgm, a]; rfl⟩
  · refine Or.inr (Or.inl ⟨a, b.1, b.2.2.1, ?_, by rw [sgm, if_pos a]⟩)
    rcases b.2.2.2.1 with q | q <;> (rw [q]; decide)
  · refine Or.inr (Or.inr ⟨a, l, b1, b2, b3.2.1, b3.2.2.1, ?_, ?_⟩)
    · rcases b3.2.2.2.1 with q | q <;> (rw [q]; decide)
    · rw [sgm, a, if_neg (by decide), if_pos rfl, b2, nI_clamp (by omega)]
theorem ChO.lt {F : PT} {N i : Nat} (h : ChO F N i) (hi : i < N) : sgm F i < N := by
  rcases h with ⟨-, e⟩ | ⟨-, h, -, -, e⟩ | ⟨-, l, h, -, -, -, -, e⟩ <;> omega
abbrev rmX8_settle : Room := { frames := 1, cells := 0, slots := 0, locals := 23 }
set_option maxRecDepth 100000 in
set_option maxHeartbeats 4000000 in
theorem c_X8_settle (l : Launch) (D : va_G) (z : Nat → ClassId) (B : Heap) (lo hi : Nat) (h : Nat → Option va_E) (rd tp ln ap b : Nat) (G : RT) (Ar tx : Nat → Int32) (hR : RdS z h rd tp ln ap b G Ar tx) (htp : tp < rd) (hb : b ≤ 60) (hch : ∀ i, i < b → ChO (P6 G) b i) : Met l yX8_settle wsX8_settle rmX8_settle (KP D vwCl B lo hi h (ty6 z) [.ref rd]) (KQv D vwCl B lo (ty6 z) (fun hi' h' => hi' = hi ∧ (∀ q, (q < rd ∨ rd + 11 ≤ q) → h' q = h q) ∧ ∃ St : Nat → Int32, RdS z h' rd tp ln ap b ((pK (P6 G), pS (P6 G), pLt (P6 G), pLb (P6 G), pDp (P6 G), pIn (P6 G), pBr (P6 G), St) : RT) Ar tx ∧ ∀ i, i < b → St i = nI (sgm (P6 G) i))) 0 0 (fun q => lo ≤ q) := by
  obtain ⟨q0, q1, q2, q3, q4, q5, q6, q7, q8, q9, q10, q11⟩ := id hR
  refine ax_met (by decide) rfl (Nat.le_of_ble_eq_true rfl) (L0 := [(0, .ref rd)]) rfl ?_
  intro p e s m args below meth c hC hr hlocks hnm hargs
  have iX7 : ∀ w ∈ u_ws RX7 TX7 9, w ∈ wsX8_settle := by decide +kernel
  have iX8 : ∀ w ∈ u_ws RX8 TX8 5, w ∈ wsX8_settle := by decide +kernel
  have LP : ∀ (n k : Nat) (hX : Nat → Option va_E) (St : Nat → Int32), k + n = b → (∀ q, (q < rd ∨ rd + 11 ≤ q) → hX q = h q) → RdS z hX rd tp ln ap b ((pK (P6 G), pS (P6 G), pLt (P6 G), pLb (P6 G), pDp (P6 G), pIn (P6 G), pBr (P6 G), St) : RT) Ar tx → (∀ i, i < k → St i = nI (sgm (P6 G) i)) → Gx p l e rmX8_settle s m args below meth c D vwCl B lo 4 (MQ below (KQv D vwCl B lo (ty6 z) (fun hi' h' => hi' = hi ∧ (∀ q, (q < rd ∨ rd + 11 ≤ q) → h' q = h q) ∧ ∃ St : Nat → Int32, RdS z h' rd tp ln ap b ((pK (P6 G), pS (P6 G), pLt (P6 G), pLb (P6 G), pDp (P6 G), pIn (P6 G), pBr (P6 G), St) : RT) Ar tx ∧ ∀ i, i < b → St i = nI (sgm (P6 G) i))) args s 0 0 (fun q => lo ≤ q)) hi hX 0 0 [(1, .int (nI k)), (0, .ref rd)] 2 [] := by
    intro n
    induction n with
    | zero =>
      intro k hX St hkn hfr hRX hSt
      obtain ⟨y133000_0, y133000_1, y133000_2, y133000_3, y133000_4, y133000_5, y133000_6, y133000_7, y133000_8, y133000_9, y133000_10, y133000_11⟩ := id hRX
      refine ax_iload_n hC 0 dX8_settle_2 rfl rfl ?_
      refine ax_aload_n hC 1 dX8_settle_3 rfl rfl ?_
      refine ax_getf (v := .ref (rd + 1)) hC y133000_0 iX8 rfl 0 (by decide) (by decide +kernel) rfl rfl dX8_settle_4 ?_
      refine ax_getf (v := .int (nI b)) hC y133000_1 iX7 rfl 0 (by decide) (by decide +kernel) rfl rfl dX8_settle_7 ?_
      refine ax_icmp_ge (tgt := 73) hC dX8_settle_10 (by decide) (fun c133001 => ?_) (fun c133001 => ?_)
      · refine ax_vret hC hr hlocks dX8_settle_73 ?_
        exact ⟨rfl, (fun q hq => (hfr q hq)), St, ⟨y133000_0, y133000_1, y133000_2, y133000_3, y133000_4, y133000_5, y133000_6, y133000_7, y133000_8, y133000_9, y133000_10, y133000_11⟩, fun i hi9 => hSt i (by omega)⟩
      · exact absurd (nI_le (by omega) (by omega)) c133001
    | succ n ih =>
      intro k hX St hkn hfr hRX hSt
      rcases hch k (by omega) with ⟨e1, e2⟩ | ⟨e1, e2, e3, e4, e5⟩ | ⟨e1, ll, e2, e3, e4, e5, e6, e7⟩
      · obtain ⟨y134000_0, y134000_1, y134000_2, y134000_3, y134000_4, y134000_5, y134000_6, y134000_7, y134000_8, y134000_9, y134000_10, y134000_11⟩ := id hRX
        refine ax_iload_n hC 0 dX8_settle_2 rfl rfl ?_
        refine ax_aload_n hC 1 dX8_settle_3 rfl rfl ?_
        refine ax_getf (v := .ref (rd + 1)) hC y134000_0 iX8 rfl 0 (by decide) (by decide +kernel) rfl rfl dX8_settle_4 ?_
        refine ax_getf (v := .int (nI b)) hC y134000_1 iX7 rfl 0 (by decide) (by decide +kernel) rfl rfl dX8_settle_7 ?_
        refine ax_icmp_ge (tgt := 73) hC dX8_settle_10 (by decide) (fun c134001 => ?_) (fun c134001 => ?_)
        · exact absurd c134001 (nI_ge (by omega) (by omega))
        · refine ax_iload_n hC 0 dX8_settle_13 rfl rfl ?_
          refine ax_bipush (v := 60) hC dX8_settle_14 (by decide) ?_
          refine ax_icmp_ge (tgt := 73) hC dX8_settle_16 (by decide) (fun c134002 => ?_) (fun c134002 => ?_)
          · exact absurd c134002 (nI_ge (a := k) (b := 60) (by omega) (by decide))
          · refine ax_iload_n hC 0 dX8_settle_19 rfl rfl ?_
            refine ax_istore_n hC [(2, .int (nI k)), (1, .int (nI k)), (0, .ref rd)] dX8_settle_20 rfl (by decide) rfl ?_
            refine ax_iconst (v := 0) hC dX8_settle_21 (by decide) ?_
            refine ax_istore_n hC [(3, .int 0), (2, .int (nI k)), (1, .int (nI k)), (0, .ref rd)] dX8_settle_22 rfl (by decide) rfl ?_
            refine ax_iload_n hC 0 dX8_settle_23 rfl rfl ?_
            refine ax_bipush (v := 120) hC dX8_settle_24 (by decide) ?_
            refine ax_icmp_ge (tgt := 57) hC dX8_settle_26 (by decide) (fun c134003 => ?_) (fun c134003 => ?_)
            · exact absurd c134003 (by decide)
            · refine ax_aload_n hC 3 dX8_settle_29 rfl rfl ?_
              refine ax_getf (v := .ref (rd + 1)) hC y134000_0 iX8 rfl 0 (by decide) (by decide +kernel) rfl rfl dX8_settle_30 ?_
              refine ax_iload_n hC 1 dX8_settle_33 rfl rfl ?_
              refine ax_callVp (st := []) hC [.int (nI k)] y134000_1 rfl (c_X7_kindOf l D z B lo _ hX (rd + 1) _ ((60, (pK (P6 G), pS (P6 G), pLt (P6 G), pLb (P6 G), pDp (P6 G), pIn (P6 G), pBr (P6 G), St)) : PT) (nI k) ⟨y134000_1, y134000_2, y134000_3, y134000_4, y134000_5, y134000_6, y134000_7, y134000_8, y134000_9⟩ (Nat.le_refl 60)) (cwV 1 hC.1.2.2.2.2 gX8_settle_X7_kindOf rfl rfl rfl (by decide +kernel) ⟨Nat.le_of_ble_eq_true rfl, Nat.le_of_ble_eq_true rfl⟩) rfl rfl (Nat.le_of_ble_eq_true rfl) dX8_settle_34 ⟨Nat.le_of_ble_eq_true rfl, Nat.le_of_ble_eq_true rfl⟩ (fun r134004 er134005 => ?_)
              subst er134005
              refine ax_eqi (y := (pK (P6 G)) k) (rd_nat (n := 60) (j := k) (by omega) (by decide)) ?_
              refine ax_iconst (v := 4) hC dX8_settle_37 (by decide) ?_
              refine ax_icmp_le (tgt := 57) hC dX8_settle_38 (by decide) (fun c134006 => ?_) (fun c134006 => ?_)
              · refine ax_aload_n hC 3 dX8_settle_57 rfl rfl ?_
                refine ax_getf (v := .ref (rd + 1)) hC y134000_0 iX8 rfl 0 (by decide) (by decide +kernel) rfl rfl dX8_settle_58 ?_
                refine ax_getf (v := .ref (rd + 9)) hC y134000_1 iX7 rfl 8 (by decide) (by decide +kernel) rfl rfl dX8_settle_61 ?_
                refine ax_iload_n hC 2 dX8_settle_64 rfl rfl ?_
                refine ax_iload_n hC 1 dX8_settle_65 rfl rfl ?_
                have b134007 : vp_in (nI k) 60 := vp_in_nI (by omega) (by omega)
                refine ax_iast hC y134000_9 1 rfl b134007 dX8_settle_66 (fun h134008 e134009 f134010 => ?_)
                rw [nI_clamp (by omega)] at e134009
                have x134011 : h134008 rd = some (.inr (10, [.ref (rd + 1), .ref (rd + 10), .ref tp, .int (nI ln), .int (nI ap)])) := (f134010 _ (by omega)).trans y134000_0
                have x134012 : h134008 (rd + 1) = some (.inr (9, [.int (nI b), .ref (rd + 2), .ref (rd + 3), .ref (rd + 4), .ref (rd + 5), .ref (rd + 6), .ref (rd + 7), .ref (rd + 8), .ref (rd + 9)])) := (f134010 _ (by omega)).trans y134000_1
                have x134013 : h134008 (rd + 2) = some (.inl (z 1, 60, .inl (pK (P6 G)))) := (f134010 _ (by omega)).trans y134000_2
                have x134014 : h134008 (rd + 3) = some (.inl (z 1, 60, .inl (pS (P6 G)))) := (f134010 _ (by omega)).trans y134000_3
                have x134015 : h134008 (rd + 4) = some (.inl (z 1, 60, .inl (pLt (P6 G)))) := (f134010 _ (by omega)).trans y134000_4
                have x134016 : h134008 (rd + 5) = some (.inl (z 1, 60, .inl (pLb (P6 G)))) := (f134010 _ (by omega)).trans y134000_5
                have x134017 : h134008 (rd + 6) = some (.inl (z 1, 60, .inl (pDp (P6 G)))) := (f134010 _ (by omega)).trans y134000_6
                have x134018 : h134008 (rd + 7) = some (.inl (z 1, 60, .inl (pIn (P6 G)))) := (f134010 _ (by omega)).trans y134000_7
                have x134019 : h134008 (rd + 8) = some (.inl (z 1, 360, .inl (pBr (P6 G)))) := (f134010 _ (by omega)).trans y134000_8
                have x134020 : h134008 (rd + 10) = some (.inl (z 1, 60, .inl (Ar))) := (f134010 _ (by omega)).trans y134000_10
                have x134021 : h134008 tp = some (.inl (z 1, 200, .inl (tx))) := (f134010 _ (by omega)).trans y134000_11
                refine ax_iinc (v := nI (k + 1)) hC 2 [(1, .int (nI (k + 1))), (3, .int 0), (2, .int (nI k)), (0, .ref rd)] dX8_settle_67 rfl (nI_1 _) (by decide) rfl ?_
                refine ax_goto (tgt := 2) hC dX8_settle_70 (by decide) ?_
                refine ax_locals [0, 3] (L' := [(1, .int (nI (k + 1))), (0, .ref rd)]) rfl ?_
                refine ih (k + 1) h134008 (upd St k (nI (k))) (by omega) (fun q hq => ((f134010 q (by omega)).trans (hfr q hq))) ⟨x134011, x134012, x134013, x134014, x134015, x134016, x134017, x134018, x134019, e134009, x134020, x134021⟩ (fun i hi9 => ?_)
                by_cases hik : i = k
                · subst hik; rw [upd_self, e2]
                · rw [upd_ne _ _ _ hik]; exact hSt i (by omega)
              · exact absurd e1 c134006
      · obtain ⟨y135000_0, y135000_1, y135000_2, y135000_3, y135000_4, y135000_5, y135000_6, y135000_7, y135000_8, y135000_9, y135000_10, y135000_11⟩ := id hRX
        refine ax_iload_n hC 0 dX8_settle_2 rfl rfl ?_
        refine ax_aload_n hC 1 dX8_settle_3 rfl rfl ?_
        refine ax_getf (v := .ref (rd + 1)) hC y135000_0 iX8 rfl 0 (by decide) (by decide +kernel) rfl rfl dX8_settle_4 ?_
        refine ax_getf (v := .int (nI b)) hC y135000_1 iX7 rfl 0 (by decide) (by decide +kernel) rfl rfl dX8_settle_7 ?_
        refine ax_icmp_ge (tgt := 73) hC dX8_settle_10 (by decide) (fun c135001 => ?_) (fun c135001 => ?_)
        · exact absurd c135001 (nI_ge (by omega) (by omega))
        · refine ax_iload_n hC 0 dX8_settle_13 rfl rfl ?_
          refine ax_bipush (v := 60) hC dX8_settle_14 (by decide) ?_
          refine ax_icmp_ge (tgt := 73) hC dX8_settle_16 (by decide) (fun c135002 => ?_) (fun c135002 => ?_)
          · exact absurd c135002 (nI_ge (a := k) (b := 60) (by omega) (by decide))
          · refine ax_iload_n hC 0 dX8_settle_19 rfl rfl ?_
            refine ax_istore_n hC [(2, .int (nI k)), (1, .int (nI k)), (0, .ref rd)] dX8_settle_20 rfl (by decide) rfl ?_
            refine ax_iconst (v := 0) hC dX8_settle_21 (by decide) ?_
            refine ax_istore_n hC [(3, .int 0), (2, .int (nI k)), (1, .int (nI k)), (0, .ref rd)] dX8_settle_22 rfl (by decide) rfl ?_
            refine ax_iload_n hC 0 dX8_settle_23 rfl rfl ?_
            refine ax_bipush (v := 120) hC dX8_settle_24 (by decide) ?_
            refine ax_icmp_ge (tgt := 57) hC dX8_settle_26 (by decide) (fun c135003 => ?_) (fun c135003 => ?_)
            · exact absurd c135003 (by decide)
            · refine ax_aload_n hC 3 dX8_settle_29 rfl rfl ?_
              refine ax_getf (v := .ref (rd + 1)) hC y135000_0 iX8 rfl 0 (by decide) (by decide +kernel) rfl rfl dX8_settle_30 ?_
              refine ax_iload_n hC 1 dX8_settle_33 rfl rfl ?_
              refine ax_callVp (st := []) hC [.int (nI k)] y135000_1 rfl (c_X7_kindOf l D z B lo _ hX (rd + 1) _ ((60, (pK (P6 G), pS (P6 G), pLt (P6 G), pLb (P6 G), pDp (P6 G), pIn (P6 G), pBr (P6 G), St)) : PT) (nI k) ⟨y135000_1, y135000_2, y135000_3, y135000_4, y135000_5, y135000_6, y135000_7, y135000_8, y135000_9⟩ (Nat.le_refl 60)) (cwV 1 hC.1.2.2.2.2 gX8_settle_X7_kindOf rfl rfl rfl (by decide +kernel) ⟨Nat.le_of_ble_eq_true rfl, Nat.le_of_ble_eq_true rfl⟩) rfl rfl (Nat.le_of_ble_eq_true rfl) dX8_settle_34 ⟨Nat.le_of_ble_eq_true rfl, Nat.le_of_ble_eq_true rfl⟩ (fun r135004 er135005 => ?_)
              subst er135005
              refine ax_eqi (y := (pK (P6 G)) k) (rd_nat (n := 60) (j := k) (by omega) (by decide)) ?_
              refine ax_eqi (y := 5) e1 ?_
              refine ax_iconst (v := 4) hC dX8_settle_37 (by decide) ?_
              refine ax_icmp_le (tgt := 57) hC dX8_settle_38 (by decide) (fun c135006 => ?_) (fun c135006 => ?_)
              · exact absurd c135006 (by decide)
              · refine ax_aload_n hC 3 dX8_settle_41 rfl rfl ?_
                refine ax_getf (v := .ref (rd + 1)) hC y135000_0 iX8 rfl 0 (by decide) (by decide +kernel) rfl rfl dX8_settle_42 ?_
                refine ax_iload_n hC 1 dX8_settle_45 rfl rfl ?_
                refine ax_iconst (v := 0) hC dX8_settle_46 (by decide) ?_
                refine ax_callVp (st := []) hC [.int (nI k), .int 0] y135000_1 rfl (c_X7_branchNode l D z B lo _ hX (rd + 1) _ ((60, (pK (P6 G), pS (P6 G), pLt (P6 G), pLb (P6 G), pDp (P6 G), pIn (P6 G), pBr (P6 G), St)) : PT) (nI k) 0 ⟨y135000_1, y135000_2, y135000_3, y135000_4, y135000_5, y135000_6, y135000_7, y135000_8, y135000_9⟩ (Nat.le_refl 60) (by rw [nI_toInt (by omega)]; omega)) (cwV 2 hC.1.2.2.2.2 gX8_settle_X7_branchNode rfl rfl rfl (by decide +kernel) ⟨Nat.le_of_ble_eq_true rfl, Nat.le_of_ble_eq_true rfl⟩) rfl rfl (Nat.le_of_ble_eq_true rfl) dX8_settle_47 ⟨Nat.le_of_ble_eq_true rfl, Nat.le_of_ble_eq_true rfl⟩ (fun r135007 er135008 => ?_)
                subst er135008
                refine ax_eqi (y := (pBr (P6 G)) (6 * k)) (branchf_nat (by omega)) ?_
                refine ax_eqi (y := nI (k + 1)) e3 ?_
                refine ax_istore_n hC [(2, .int (nI (k + 1))), (3, .int 0), (1, .int (nI k)), (0, .ref rd)] dX8_settle_50 rfl (by decide) rfl ?_
                refine ax_iinc (v := 1) hC 1 [(3, .int 1), (2, .int (nI (k + 1))), (1, .int (nI k)), (0, .ref rd)] dX8_settle_51 rfl (by decide) (by decide) rfl ?_
                refine ax_goto (tgt := 23) hC dX8_settle_54 (by decide) ?_
                refine ax_iload_n hC 0 dX8_settle_23 rfl rfl ?_
                refine ax_bipush (v := 120) hC dX8_settle_24 (by decide) ?_
                refine ax_icmp_ge (tgt := 57) hC dX8_settle_26 (by decide) (fun c135010 => ?_) (fun c135010 => ?_)
                · exact absurd c135010 (by decide)
                · refine ax_aload_n hC 3 dX8_settle_29 rfl rfl ?_
                  refine ax_getf (v := .ref (rd + 1)) hC y135000_0 iX8 rfl 0 (by decide) (by decide +kernel) rfl rfl dX8_settle_30 ?_
                  refine ax_iload_n hC 1 dX8_settle_33 rfl rfl ?_
                  refine ax_callVp (st := []) hC [.int (nI (k + 1))] y135000_1 rfl (c_X7_kindOf l D z B lo _ hX (rd + 1) _ ((60, (pK (P6 G), pS (P6 G), pLt (P6 G), pLb (P6 G), pDp (P6 G), pIn (P6 G), pBr (P6 G), St)) : PT) (nI (k + 1)) ⟨y135000_1, y135000_2, y135000_3, y135000_4, y135000_5, y135000_6, y135000_7, y135000_8, y135000_9⟩ (Nat.le_refl 60)) (cwV 1 hC.1.2.2.2.2 gX8_settle_X7_kindOf rfl rfl rfl (by decide +kernel) ⟨Nat.le_of_ble_eq_true rfl, Nat.le_of_ble_eq_true rfl⟩) rfl rfl (Nat.le_of_ble_eq_true rfl) dX8_settle_34 ⟨Nat.le_of_ble_eq_true rfl, Nat.le_of_ble_eq_true rfl⟩ (fun r135011 er135012 => ?_)
                  subst er135012
                  refine ax_eqi (y := (pK (P6 G)) (k + 1)) (rd_nat (n := 60) (j := k + 1) (by omega) (by decide)) ?_
                  refine ax_iconst (v := 4) hC dX8_settle_37 (by decide) ?_
                  refine ax_icmp_le (tgt := 57) hC dX8_settle_38 (by decide) (fun c135013 => ?_) (fun c135013 => ?_)
                  · refine ax_aload_n hC 3 dX8_settle_57 rfl rfl ?_
                    refine ax_getf (v := .ref (rd + 1)) hC y135000_0 iX8 rfl 0 (by decide) (by decide +kernel) rfl rfl dX8_settle_58 ?_
                    refine ax_getf (v := .ref (rd + 9)) hC y135000_1 iX7 rfl 8 (by decide) (by decide +kernel) rfl rfl dX8_settle_61 ?_
                    refine ax_iload_n hC 2 dX8_settle_64 rfl rfl ?_
                    refine ax_iload_n hC 1 dX8_settle_65 rfl rfl ?_
                    have b135014 : vp_in (nI k) 60 := vp_in_nI (by omega) (by omega)
                    refine ax_iast hC y135000_9 1 rfl b135014 dX8_settle_66 (fun h135015 e135016 f135017 => ?_)
                    rw [nI_clamp (by omega)] at e135016
                    have x135018 : h135015 rd = some (.inr (10, [.ref (rd + 1), .ref (rd + 10), .ref tp, .int (nI ln), .int (nI ap)])) := (f135017 _ (by omega)).trans y135000_0
                    have x135019 : h135015 (rd + 1) = some (.inr (9, [.int (nI b), .ref (rd + 2), .ref (rd + 3), .ref (rd + 4), .ref (rd + 5), .ref (rd + 6), .ref (rd + 7), .ref (rd + 8), .ref (rd + 9)])) := (f135017 _ (by omega)).trans y135000_1
                    have x135020 : h135015 (rd + 2) = some (.inl (z 1, 60, .inl (pK (P6 G)))) := (f135017 _ (by omega)).trans y135000_2
                    have x135021 : h135015 (rd + 3) = some (.inl (z 1, 60, .inl (pS (P6 G)))) := (f135017 _ (by omega)).trans y135000_3
                    have x135022 : h135015 (rd + 4) = some (.inl (z 1, 60, .inl (pLt (P6 G)))) := (f135017 _ (by omega)).trans y135000_4
                    have x135023 : h135015 (rd + 5) = some (.inl (z 1, 60, .inl (pLb (P6 G)))) := (f135017 _ (by omega)).trans y135000_5
                    have x135024 : h135015 (rd + 6) = some (.inl (z 1, 60, .inl (pDp (P6 G)))) := (f135017 _ (by omega)).trans y135000_6
                    have x135025 : h135015 (rd + 7) = some (.inl (z 1, 60, .inl (pIn (P6 G)))) := (f135017 _ (by omega)).trans y135000_7
                    have x135026 : h135015 (rd + 8) = some (.inl (z 1, 360, .inl (pBr (P6 G)))) := (f135017 _ (by omega)).trans y135000_8
                    have x135027 : h135015 (rd + 10) = some (.inl (z 1, 60, .inl (Ar))) := (f135017 _ (by omega)).trans y135000_10
                    have x135028 : h135015 tp = some (.inl (z 1, 200, .inl (tx))) := (f135017 _ (by omega)).trans y135000_11
                    refine ax_iinc (v := nI (k + 1)) hC 2 [(1, .int (nI (k + 1))), (3, .int 1), (2, .int (nI (k + 1))), (0, .ref rd)] dX8_settle_67 rfl (nI_1 _) (by decide) rfl ?_
                    refine ax_goto (tgt := 2) hC dX8_settle_70 (by decide) ?_
                    refine ax_locals [0, 3] (L' := [(1, .int (nI (k + 1))), (0, .ref rd)]) rfl ?_
                    refine ih (k + 1) h135015 (upd St k (nI (k + 1))) (by omega) (fun q hq => ((f135017 q (by omega)).trans (hfr q hq))) ⟨x135018, x135019, x135020, x135021, x135022, x135023, x135024, x135025, x135026, e135016, x135027, x135028⟩ (fun i hi9 => ?_)
                    by_cases hik : i = k
                    · subst hik; rw [upd_self, e5]
                    · rw [upd_ne _ _ _ hik]; exact hSt i (by omega)
                  · exact absurd e4 c135013
      · obtain ⟨y136000_0, y136000_1, y136000_2, y136000_3, y136000_4, y136000_5, y136000_6, y136000_7, y136000_8, y136000_9, y136000_10, y136000_11⟩ := id hRX
        refine ax_iload_n hC 0 dX8_settle_2 rfl rfl ?_
        refine ax_aload_n hC 1 dX8_settle_3 rfl rfl ?_
        refine ax_getf (v := .ref (rd + 1)) hC y136000_0 iX8 rfl 0 (by decide) (by decide +kernel) rfl rfl dX8_settle_4 ?_
        refine ax_getf (v := .int (nI b)) hC y136000_1 iX7 rfl 0 (by decide) (by decide +kernel) rfl rfl dX8_settle_7 ?_
        refine ax_icmp_ge (tgt := 73) hC dX8_settle_10 (by decide) (fun c136001 => ?_) (fun c136001 => ?_)
        · exact absurd c136001 (nI_ge (by omega) (by omega))
        · refine ax_iload_n hC 0 dX8_settle_13 rfl rfl ?_
          refine ax_bipush (v := 60) hC dX8_settle_14 (by decide) ?_
          refine ax_icmp_ge (tgt := 73) hC dX8_settle_16 (by decide) (fun c136002 => ?_) (fun c136002 => ?_)
          · exact absurd c136002 (nI_ge (a := k) (b := 60) (by omega) (by decide))
          · refine ax_iload_n hC 0 dX8_settle_19 rfl rfl ?_
            refine ax_istore_n hC [(2, .int (nI k)), (1, .int (nI k)), (0, .ref rd)] dX8_settle_20 rfl (by decide) rfl ?_
            refine ax_iconst (v := 0) hC dX8_settle_21 (by decide) ?_
            refine ax_istore_n hC [(3, .int 0), (2, .int (nI k)), (1, .int (nI k)), (0, .ref rd)] dX8_settle_22 rfl (by decide) rfl ?_
            refine ax_iload_n hC 0 dX8_settle_23 rfl rfl ?_
            refine ax_bipush (v := 120) hC dX8_settle_24 (by decide) ?_
            refine ax_icmp_ge (tgt := 57) hC dX8_settle_26 (by decide) (fun c136003 => ?_) (fun c136003 => ?_)
            · exact absurd c136003 (by decide)
            · refine ax_aload_n hC 3 dX8_settle_29 rfl rfl ?_
              refine ax_getf (v := .ref (rd + 1)) hC y136000_0 iX8 rfl 0 (by decide) (by decide +kernel) rfl rfl dX8_settle_30 ?_
              refine ax_iload_n hC 1 dX8_settle_33 rfl rfl ?_
              refine ax_callVp (st := []) hC [.int (nI k)] y136000_1 rfl (c_X7_kindOf l D z B lo _ hX (rd + 1) _ ((60, (pK (P6 G), pS (P6 G), pLt (P6 G), pLb (P6 G), pDp (P6 G), pIn (P6 G), pBr (P6 G), St)) : PT) (nI k) ⟨y136000_1, y136000_2, y136000_3, y136000_4, y136000_5, y136000_6, y136000_7, y136000_8, y136000_9⟩ (Nat.le_refl 60)) (cwV 1 hC.1.2.2.2.2 gX8_settle_X7_kindOf rfl rfl rfl (by decide +kernel) ⟨Nat.le_of_ble_eq_true rfl, Nat.le_of_ble_eq_true rfl⟩) rfl rfl (Nat.le_of_ble_eq_true rfl) dX8_settle_34 ⟨Nat.le_of_ble_eq_true rfl, Nat.le_of_ble_eq_true rfl⟩ (fun r136004 er136005 => ?_)
              subst er136005
              refine ax_eqi (y := (pK (P6 G)) k) (rd_nat (n := 60) (j := k) (by omega) (by decide)) ?_
              refine ax_eqi (y := 6) e1 ?_
              refine ax_iconst (v := 4) hC dX8_settle_37 (by decide) ?_
              refine ax_icmp_le (tgt := 57) hC dX8_settle_38 (by decide) (fun c136006 => ?_) (fun c136006 => ?_)
              · exact absurd c136006 (by decide)
              · refine ax_aload_n hC 3 dX8_settle_41 rfl rfl ?_
                refine ax_getf (v := .ref (rd + 1)) hC y136000_0 iX8 rfl 0 (by decide) (by decide +kernel) rfl rfl dX8_settle_42 ?_
                refine ax_iload_n hC 1 dX8_settle_45 rfl rfl ?_
                refine ax_iconst (v := 0) hC dX8_settle_46 (by decide) ?_
                refine ax_callVp (st := []) hC [.int (nI k), .int 0] y136000_1 rfl (c_X7_branchNode l D z B lo _ hX (rd + 1) _ ((60, (pK (P6 G), pS (P6 G), pLt (P6 G), pLb (P6 G), pDp (P6 G), pIn (P6 G), pBr (P6 G), St)) : PT) (nI k) 0 ⟨y136000_1, y136000_2, y136000_3, y136000_4, y136000_5, y136000_6, y136000_7, y136000_8, y136000_9⟩ (Nat.le_refl 60) (by rw [nI_toInt (by omega)]; omega)) (cwV 2 hC.1.2.2.2.2 gX8_settle_X7_branchNode rfl rfl rfl (by decide +kernel) ⟨Nat.le_of_ble_eq_true rfl, Nat.le_of_ble_eq_true rfl⟩) rfl rfl (Nat.le_of_ble_eq_true rfl) dX8_settle_47 ⟨Nat.le_of_ble_eq_true rfl, Nat.le_of_ble_eq_true rfl⟩ (fun r136007 er136008 => ?_)
                subst er136008
                refine ax_eqi (y := (pBr (P6 G)) (6 * k)) (branchf_nat (by omega)) ?_
                refine ax_eqi (y := nI ll) e3 ?_
                refine ax_istore_n hC [(2, .int (nI ll)), (3, .int 0), (1, .int (nI k)), (0, .ref rd)] dX8_settle_50 rfl (by decide) rfl ?_
                refine ax_iinc (v := 1) hC 1 [(3, .int 1), (2, .int (nI ll)), (1, .int (nI k)), (0, .ref rd)] dX8_settle_51 rfl (by decide) (by decide) rfl ?_
                refine ax_goto (tgt := 23) hC dX8_settle_54 (by decide) ?_
                refine ax_iload_n hC 0 dX8_settle_23 rfl rfl ?_
                refine ax_bipush (v := 120) hC dX8_settle_24 (by decide) ?_
                refine ax_icmp_ge (tgt := 57) hC dX8_settle_26 (by decide) (fun c136010 => ?_) (fun c136010 => ?_)
                · exact absurd c136010 (by decide)
                · refine ax_aload_n hC 3 dX8_settle_29 rfl rfl ?_
                  refine ax_getf (v := .ref (rd + 1)) hC y136000_0 iX8 rfl 0 (by decide) (by decide +kernel) rfl rfl dX8_settle_30 ?_
                  refine ax_iload_n hC 1 dX8_settle_33 rfl rfl ?_
                  refine ax_callVp (st := []) hC [.int (nI ll)] y136000_1 rfl (c_X7_kindOf l D z B lo _ hX (rd + 1) _ ((60, (pK (P6 G), pS (P6 G), pLt (P6 G), pLb (P6 G), pDp (P6 G), pIn (P6 G), pBr (P6 G), St)) : PT) (nI ll) ⟨y136000_1, y136000_2, y136000_3, y136000_4, y136000_5, y136000_6, y136000_7, y136000_8, y136000_9⟩ (Nat.le_refl 60)) (cwV 1 hC.1.2.2.2.2 gX8_settle_X7_kindOf rfl rfl rfl (by decide +kernel) ⟨Nat.le_of_ble_eq_true rfl, Nat.le_of_ble_eq_true rfl⟩) rfl rfl (Nat.le_of_ble_eq_true rfl) dX8_settle_34 ⟨Nat.le_of_ble_eq_true rfl, Nat.le_of_ble_eq_true rfl⟩ (fun r136011 er136012 => ?_)
                  subst er136012
                  refine ax_eqi (y := (pK (P6 G)) ll) (rd_nat (n := 60) (j := ll) (by omega) (by decide)) ?_
                  refine ax_eqi (y := 5) e4 ?_
                  refine ax_iconst (v := 4) hC dX8_settle_37 (by decide) ?_
                  refine ax_icmp_le (tgt := 57) hC dX8_settle_38 (by decide) (fun c136013 => ?_) (fun c136013 => ?_)
                  · exact absurd c136013 (by decide)
                  · refine ax_aload_n hC 3 dX8_settle_41 rfl rfl ?_
                    refine ax_getf (v := .ref (rd + 1)) hC y136000_0 iX8 rfl 0 (by decide) (by decide +kernel) rfl rfl dX8_settle_42 ?_
                    refine ax_iload_n hC 1 dX8_settle_45 rfl rfl ?_
                    refine ax_iconst (v := 0) hC dX8_settle_46 (by decide) ?_
                    refine ax_callVp (st := []) hC [.int (nI ll), .int 0] y136000_1 rfl (c_X7_branchNode l D z B lo _ hX (rd + 1) _ ((60, (pK (P6 G), pS (P6 G), pLt (P6 G), pLb (P6 G), pDp (P6 G), pIn (P6 G), pBr (P6 G), St)) : PT) (nI ll) 0 ⟨y136000_1, y136000_2, y136000_3, y136000_4, y136000_5, y136000_6, y136000_7, y136000_8, y136000_9⟩ (Nat.le_refl 60) (by rw [nI_toInt (by omega)]; omega)) (cwV 2 hC.1.2.2.2.2 gX8_settle_X7_branchNode rfl rfl rfl (by decide +kernel) ⟨Nat.le_of_ble_eq_true rfl, Nat.le_of_ble_eq_true rfl⟩) rfl rfl (Nat.le_of_ble_eq_true rfl) dX8_settle_47 ⟨Nat.le_of_ble_eq_true rfl, Nat.le_of_ble_eq_true rfl⟩ (fun r136014 er136015 => ?_)
                    subst er136015
                    refine ax_eqi (y := (pBr (P6 G)) (6 * ll)) (branchf_nat (by omega)) ?_
                    refine ax_eqi (y := nI (ll + 1)) e5 ?_
                    refine ax_istore_n hC [(2, .int (nI (ll + 1))), (3, .int 1), (1, .int (nI k)), (0, .ref rd)] dX8_settle_50 rfl (by decide) rfl ?_
                    refine ax_iinc (v := 2) hC 1 [(3, .int 2), (2, .int (nI (ll + 1))), (1, .int (nI k)), (0, .ref rd)] dX8_settle_51 rfl (by decide) (by decide) rfl ?_
                    refine ax_goto (tgt := 23) hC dX8_settle_54 (by decide) ?_
                    refine ax_iload_n hC 0 dX8_settle_23 rfl rfl ?_
                    refine ax_bipush (v := 120) hC dX8_settle_24 (by decide) ?_
                    refine ax_icmp_ge (tgt := 57) hC dX8_settle_26 (by decide) (fun c136017 => ?_) (fun c136017 => ?_)
                    · exact absurd c136017 (by decide)
                    · refine ax_aload_n hC 3 dX8_settle_29 rfl rfl ?_
                      refine ax_getf (v := .ref (rd + 1)) hC y136000_0 iX8 rfl 0 (by decide) (by decide +kernel) rfl rfl dX8_settle_30 ?_
                      refine ax_iload_n hC 1 dX8_settle_33 rfl rfl ?_
                      refine ax_callVp (st := []) hC [.int (nI (ll + 1))] y136000_1 rfl (c_X7_kindOf l D z B lo _ hX (rd + 1) _ ((60, (pK (P6 G), pS (P6 G), pLt (P6 G), pLb (P6 G), pDp (P6 G), pIn (P6 G), pBr (P6 G), St)) : PT) (nI (ll + 1)) ⟨y136000_1, y136000_2, y136000_3, y136000_4, y136000_5, y136000_6, y136000_7, y136000_8, y136000_9⟩ (Nat.le_refl 60)) (cwV 1 hC.1.2.2.2.2 gX8_settle_X7_kindOf rfl rfl rfl (by decide +kernel) ⟨Nat.le_of_ble_eq_true rfl, Nat.le_of_ble_eq_true rfl⟩) rfl rfl (Nat.le_of_ble_eq_true rfl) dX8_settle_34 ⟨Nat.le_of_ble_eq_true rfl, Nat.le_of_ble_eq_true rfl⟩ (fun r136018 er136019 => ?_)
                      subst er136019
                      refine ax_eqi (y := (pK (P6 G)) (ll + 1)) (rd_nat (n := 60) (j := ll + 1) (by omega) (by decide)) ?_
                      refine ax_iconst (v := 4) hC dX8_settle_37 (by decide) ?_
                      refine ax_icmp_le (tgt := 57) hC dX8_settle_38 (by decide) (fun c136020 => ?_) (fun c136020 => ?_)
                      · refine ax_aload_n hC 3 dX8_settle_57 rfl rfl ?_
                        refine ax_getf (v := .ref (rd + 1)) hC y136000_0 iX8 rfl 0 (by decide) (by decide +kernel) rfl rfl dX8_settle_58 ?_
                        refine ax_getf (v := .ref (rd + 9)) hC y136000_1 iX7 rfl 8 (by decide) (by decide +kernel) rfl rfl dX8_settle_61 ?_
                        refine ax_iload_n hC 2 dX8_settle_64 rfl rfl ?_
                        refine ax_iload_n hC 1 dX8_settle_65 rfl rfl ?_
                        have b136021 : vp_in (nI k) 60 := vp_in_nI (by omega) (by omega)
                        refine ax_iast hC y136000_9 1 rfl b136021 dX8_settle_66 (fun h136022 e136023 f136024 => ?_)
                        rw [nI_clamp (by omega)] at e136023
                        have x136025 : h136022 rd = some (.inr (10, [.ref (rd + 1), .ref (rd + 10), .ref tp, .int (nI ln), .int (nI ap)])) := (f136024 _ (by omega)).trans y136000_0
                        have x136026 : h136022 (rd + 1) = some (.inr (9, [.int (nI b), .ref (rd + 2), .ref (rd + 3), .ref (rd + 4), .ref (rd + 5), .ref (rd + 6), .ref (rd + 7), .ref (rd + 8), .ref (rd + 9)])) := (f136024 _ (by omega)).trans y136000_1
                        have x136027 : h136022 (rd + 2) = some (.inl (z 1, 60, .inl (pK (P6 G)))) := (f136024 _ (by omega)).trans y136000_2
                        have x136028 : h136022 (rd + 3) = some (.inl (z 1, 60, .inl (pS (P6 G)))) := (f136024 _ (by omega)).trans y136000_3
                        have x136029 : h136022 (rd + 4) = some (.inl (z 1, 60, .inl (pLt (P6 G)))) := (f136024 _ (by omega)).trans y136000_4
                        have x136030 : h136022 (rd + 5) = some (.inl (z 1, 60, .inl (pLb (P6 G)))) := (f136024 _ (by omega)).trans y136000_5
                        have x136031 : h136022 (rd + 6) = some (.inl (z 1, 60, .inl (pDp (P6 G)))) := (f136024 _ (by omega)).trans y136000_6
                        have x136032 : h136022 (rd + 7) = some (.inl (z 1, 60, .inl (pIn (P6 G)))) := (f136024 _ (by omega)).trans y136000_7
                        have x136033 : h136022 (rd + 8) = some (.inl (z 1, 360, .inl (pBr (P6 G)))) := (f136024 _ (by omega)).trans y136000_8
                        have x136034 : h136022 (rd + 10) = some (.inl (z 1, 60, .inl (Ar))) := (f136024 _ (by omega)).trans y136000_10
                        have x136035 : h136022 tp = some (.inl (z 1, 200, .inl (tx))) := (f136024 _ (by omega)).trans y136000_11
                        refine ax_iinc (v := nI (k + 1)) hC 2 [(1, .int (nI (k + 1))), (3, .int 2), (2, .int (nI (ll + 1))), (0, .ref rd)] dX8_settle_67 rfl (nI_1 _) (by decide) rfl ?_
                        refine ax_goto (tgt := 2) hC dX8_settle_70 (by decide) ?_
                        refine ax_locals [0, 3] (L' := [(1, .int (nI (k + 1))), (0, .ref rd)]) rfl ?_
                        refine ih (k + 1) h136022 (upd St k (nI (ll + 1))) (by omega) (fun q hq => ((f136024 q (by omega)).trans (hfr q hq))) ⟨x136025, x136026, x136027, x136028, x136029, x136030, x136031, x136032, x136033, e136023, x136034, x136035⟩ (fun i hi9 => ?_)
                        by_cases hik : i = k
                        · subst hik; rw [upd_self, e7]
                        · rw [upd_ne _ _ _ hik]; exact hSt i (by omega)
                      · exact absurd e6 c136020
  refine ax_iconst (v := 0) hC dX8_settle_0 (by decide) ?_
  refine ax_istore_n hC [(1, .int 0), (0, .ref rd)] dX8_settle_1 rfl (by decide) rfl ?_
  refine ax_locals [0, 1] (L' := [(1, .int 0), (0, .ref rd)]) rfl ?_
  exact LP b 0 h (pSt (P6 G)) (by omega) (fun _ _ => rfl) hR (fun i hi9 => absurd hi9 (by omega))
