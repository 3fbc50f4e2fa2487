theorem hd0 {tx : List Nat} (h : hdo tx) {i : Nat} (hi : i = 0) (hl : 0 < tx.length) : tx.getD i 0 < 119 ∨ 122 < tx.getD i 0 := by
  subst hi
  cases tx with
  | nil => exact absurd hl (by simp)
  | cons a l => exact h a rfl
theorem drop_c {tx : List Nat} {i : Nat} (h : i < tx.length) : tx.drop i = tx.getD i 0 :: tx.drop (i + 1) := by
  rw [List.drop_eq_getElem_cons h, List.getD_eq_getElem?_getD, List.getElem?_eq_getElem h]; rfl

abbrev rmL_nodes : Room := { frames := 4, cells := 0, slots := 0, locals := 85 }
set_option maxRecDepth 100000 in
set_option maxHeartbeats 4000000 in
theorem c_L_nodes (l : Launch) (D : va_G) (z : Nat → ClassId) (B : Heap) (lo hi : Nat) (h : Nat → Option va_E) (kr kv : Nat → Nat) (sa va : Nat) (tx : List Nat) (hs : StV kr kv h sa va) (ht : ByA z kv h va tx) (hl : tx.length ≤ 1000) (hd : hdo tx) : Met l yL_nodes wsL_nodes rmL_nodes (KPs D vwCl B lo hi h kr kv (ty6 z) [.ref sa]) (KQp D vwCl B lo hi h (ty6 z) (fun r => r = nI (ndl 0 tx))) 0 0 (fun q => lo ≤ q) := by
  refine ax_metS (by decide) rfl (Nat.le_of_ble_eq_true rfl) (L0 := [(0, .ref sa)]) rfl ?_
  intro p e s m args below meth c hC hX hr hlocks hnm hargs
  have loop : ∀ (n : Nat) (ii mm : Nat), ii + n = tx.length → mm ≤ ii → mm + ndl (if ii = 0 then 0 else tx.getD (ii - 1) 0) (tx.drop ii) = ndl 0 tx → Gx p l e rmL_nodes s m args below meth c D vwCl B lo 4 (MQ below (KQp D vwCl B lo hi h (ty6 z) (fun r => r = nI (ndl 0 tx))) args s 0 0 (fun q => lo ≤ q)) hi h 0 0 [(2, .int (nI ii)), (1, .int (nI mm)), (0, .ref sa)] 4 [] := by
    intro n
    induction n with
    | zero =>
      intro ii mm hkn hml hmm
      refine ax_iload_n hC 0 dL_nodes_4 rfl rfl ?_
      refine ax_aload_n hC 2 dL_nodes_5 rfl rfl ?_
      refine ax_sVp (mc := 0) (ms := 0) (st := [.int (nI ii)]) hC hX [] (rc_s hC hX hs rfl) (c_J0_length_8abf5 l D z B lo _ _ kr kv sa _ _ hs ht (by omega)) (cwV 0 hC.1.2.2.2.2 gL_nodes_J0_length_8abf5 rfl rfl rfl (by decide +kernel) ⟨Nat.le_of_ble_eq_true rfl, Nat.le_of_ble_eq_true rfl⟩) rfl rfl (Nat.le_of_ble_eq_true rfl) dL_nodes_6 ⟨Nat.le_of_ble_eq_true rfl, Nat.le_of_ble_eq_true rfl⟩ (fun r141001 er141002 => ?_)
      subst er141002
      refine ax_icmp_ge (tgt := 87) hC dL_nodes_9 (by decide) (fun c141003 => ?_) (fun c141003 => ?_)
      · refine ax_iload_n hC 1 dL_nodes_87 rfl rfl ?_
        refine ax_iret hC hr hlocks dL_nodes_88 ?_
        exact ⟨congrArg nI (by rw [← hmm, show ii = tx.length by omega, List.drop_length]; rfl), rfl, rfl⟩
      · exact absurd (nI_le (a := tx.length) (b := ii) (by omega) (by omega)) c141003
    | succ n ih =>
      intro ii mm hkn hml hmm
      refine ax_iload_n hC 0 dL_nodes_4 rfl rfl ?_
      refine ax_aload_n hC 2 dL_nodes_5 rfl rfl ?_
      refine ax_sVp (mc := 0) (ms := 0) (st := [.int (nI ii)]) hC hX [] (rc_s hC hX hs rfl) (c_J0_length_8abf5 l D z B lo _ _ kr kv sa _ _ hs ht (by omega)) (cwV 0 hC.1.2.2.2.2 gL_nodes_J0_length_8abf5 rfl rfl rfl (by decide +kernel) ⟨Nat.le_of_ble_eq_true rfl, Nat.le_of_ble_eq_true rfl⟩) rfl rfl (Nat.le_of_ble_eq_true rfl) dL_nodes_6 ⟨Nat.le_of_ble_eq_true rfl, Nat.le_of_ble_eq_true rfl⟩ (fun r142001 er142002 => ?_)
      subst er142002
      refine ax_icmp_ge (tgt := 87) hC dL_nodes_9 (by decide) (fun c142003 => ?_) (fun c142003 => ?_)
      · exact absurd ((nI_leI (by omega) (by omega)).mp c142003) (by omega)
      · refine ax_aload_n hC 2 dL_nodes_12 rfl rfl ?_
        refine ax_iload_n hC 0 dL_nodes_13 rfl rfl ?_
        refine ax_sVp (mc := 0) (ms := 0) (st := []) hC hX [.int (nI ii)] (rc_s hC hX hs rfl) (c_J0_charAt_5068e l D z B lo _ _ kr kv sa _ _ ii hs ht (by omega) (by omega)) (cwV 1 hC.1.2.2.2.2 gL_nodes_J0_charAt_5068e rfl rfl rfl (by decide +kernel) ⟨Nat.le_of_ble_eq_true rfl, Nat.le_of_ble_eq_true rfl⟩) rfl rfl (Nat.le_of_ble_eq_true rfl) dL_nodes_14 ⟨Nat.le_of_ble_eq_true rfl, Nat.le_of_ble_eq_true rfl⟩ (fun r142004 er142005 => ?_)
        subst er142005
        refine ax_istore_n hC [(3, .int (nI (tx.getD ii 0))), (2, .int (nI ii)), (1, .int (nI mm)), (0, .ref sa)] dL_nodes_17 rfl (by decide) rfl ?_
        have hc9 : tx.getD ii 0 < 128 := ht.lt (by omega)
        refine ax_iload_n hC 0 dL_nodes_18 rfl rfl ?_
        refine ax_bipush (v := 48) hC dL_nodes_19 (by decide) ?_
        refine ax_icmp_eq (tgt := 78) hC dL_nodes_21 (by decide) (fun c142006 => ?_) (fun c142006 => ?_)
        · refine ax_iinc (v := nI (mm + 1)) hC 2 [(1, .int (nI (mm + 1))), (3, .int (nI (tx.getD ii 0))), (2, .int (nI ii)), (0, .ref sa)] dL_nodes_78 rfl (nI_1 _) (by decide) rfl ?_
          refine ax_iinc (v := nI (ii + 1)) hC 2 [(2, .int (nI (ii + 1))), (1, .int (nI (mm + 1))), (3, .int (nI (tx.getD ii 0))), (0, .ref sa)] dL_nodes_81 rfl (nI_1 _) (by decide) rfl ?_
          refine ax_goto (tgt := 4) hC dL_nodes_84 (by decide) ?_
          refine ax_locals [0, 1, 3] (L' := [(2, .int (nI (ii + 1))), (1, .int (nI (mm + 1))), (0, .ref sa)]) rfl ?_
          have u142010 : tx.getD ii 0 = 48 := (nI_eq (b := 48) (by omega) (by decide)).mp c142006
          have is9 : isn (if ii = 0 then 0 else tx.getD (ii - 1) 0) (tx.getD ii 0) = 1 := by
            unfold isn
            exact if_pos (by split <;> omega)
          rw [drop_c (by omega)] at hmm
          change mm + (isn (if ii = 0 then 0 else tx.getD (ii - 1) 0) (tx.getD ii 0) + ndl (tx.getD ii 0) (tx.drop (ii + 1))) = _ at hmm
          rw [is9] at hmm
          exact ih (ii + 1) (mm + 1) (by omega) (by omega) (by rw [if_neg (by omega), Nat.add_sub_cancel]; omega)
        · refine ax_iload_n hC 0 dL_nodes_24 rfl rfl ?_
          refine ax_bipush (v := 33) hC dL_nodes_25 (by decide) ?_
          refine ax_icmp_eq (tgt := 78) hC dL_nodes_27 (by decide) (fun c142011 => ?_) (fun c142011 => ?_)
          · refine ax_iinc (v := nI (mm + 1)) hC 2 [(1, .int (nI (mm + 1))), (3, .int (nI (tx.getD ii 0))), (2, .int (nI ii)), (0, .ref sa)] dL_nodes_78 rfl (nI_1 _) (by decide) rfl ?_
            refine ax_iinc (v := nI (ii + 1)) hC 2 [(2, .int (nI (ii + 1))), (1, .int (nI (mm + 1))), (3, .int (nI (tx.getD ii 0))), (0, .ref sa)] dL_nodes_81 rfl (nI_1 _) (by decide) rfl ?_
            refine ax_goto (tgt := 4) hC dL_nodes_84 (by decide) ?_
            refine ax_locals [0, 1, 3] (L' := [(2, .int (nI (ii + 1))), (1, .int (nI (mm + 1))), (0, .ref sa)]) rfl ?_
            have u142015 : ¬ tx.getD ii 0 = 48 := fun e => c142006 (by rw [e]; rfl)
            have u142016 : tx.getD ii 0 = 33 := (nI_eq (b := 33) (by omega) (by decide)).mp c142011
            have is9 : isn (if ii = 0 then 0 else tx.getD (ii - 1) 0) (tx.getD ii 0) = 1 := by
              unfold isn
              exact if_pos (by split <;> omega)
            rw [drop_c (by omega)] at hmm
            change mm + (isn (if ii = 0 then 0 else tx.getD (ii - 1) 0) (tx.getD ii 0) + ndl (tx.getD ii 0) (tx.drop (ii + 1))) = _ at hmm
            rw [is9] at hmm
            exact ih (ii + 1) (mm + 1) (by omega) (by omega) (by rw [if_neg (by omega), Nat.add_sub_cancel]; omega)
          · refine ax_iload_n hC 0 dL_nodes_30 rfl rfl ?_
            refine ax_bipush (v := 63) hC dL_nodes_31 (by decide) ?_
            refine ax_icmp_eq (tgt := 78) hC dL_nodes_33 (by decide) (fun c142017 => ?_) (fun c142017 => ?_)
            · refine ax_iinc (v := nI (mm + 1)) hC 2 [(1, .int (nI (mm + 1))), (3, .int (nI (tx.getD ii 0))), (2, .int (nI ii)), (0, .ref sa)] dL_nodes_78 rfl (nI_1 _) (by decide) rfl ?_
              refine ax_iinc (v := nI (ii + 1)) hC 2 [(2, .int (nI (ii + 1))), (1, .int (nI (mm + 1))), (3, .int (nI (tx.getD ii 0))), (0, .ref sa)] dL_nodes_81 rfl (nI_1 _) (by decide) rfl ?_
              refine ax_goto (tgt := 4) hC dL_nodes_84 (by decide) ?_
              refine ax_locals [0, 1, 3] (L' := [(2, .int (nI (ii + 1))), (1, .int (nI (mm + 1))), (0, .ref sa)]) rfl ?_
              have u142021 : ¬ tx.getD ii 0 = 48 := fun e => c142006 (by rw [e]; rfl)
              have u142022 : ¬ tx.getD ii 0 = 33 := fun e => c142011 (by rw [e]; rfl)
              have u142023 : tx.getD ii 0 = 63 := (nI_eq (b := 63) (by omega) (by decide)).mp c142017
              have is9 : isn (if ii = 0 then 0 else tx.getD (ii - 1) 0) (tx.getD ii 0) = 1 := by
                unfold isn
                exact if_pos (by split <;> omega)
              rw [drop_c (by omega)] at hmm
              change mm + (isn (if ii = 0 then 0 else tx.getD (ii - 1) 0) (tx.getD ii 0) + ndl (tx.getD ii 0) (tx.drop (ii + 1))) = _ at hmm
              rw [is9] at hmm
              exact ih (ii + 1) (mm + 1) (by omega) (by omega) (by rw [if_neg (by omega), Nat.add_sub_cancel]; omega)
            · refine ax_iload_n hC 0 dL_nodes_36 rfl rfl ?_
              refine ax_bipush (v := 43) hC dL_nodes_37 (by decide) ?_
              refine ax_icmp_eq (tgt := 78) hC dL_nodes_39 (by decide) (fun c142024 => ?_) (fun c142024 => ?_)
              · refine ax_iinc (v := nI (mm + 1)) hC 2 [(1, .int (nI (mm + 1))), (3, .int (nI (tx.getD ii 0))), (2, .int (nI ii)), (0, .ref sa)] dL_nodes_78 rfl (nI_1 _) (by decide) rfl ?_
                refine ax_iinc (v := nI (ii + 1)) hC 2 [(2, .int (nI (ii + 1))), (1, .int (nI (mm + 1))), (3, .int (nI (tx.getD ii 0))), (0, .ref sa)] dL_nodes_81 rfl (nI_1 _) (by decide) rfl ?_
                refine ax_goto (tgt := 4) hC dL_nodes_84 (by decide) ?_
                refine ax_locals [0, 1, 3] (L' := [(2, .int (nI (ii + 1))), (1, .int (nI (mm + 1))), (0, .ref sa)]) rfl ?_
                have u142028 : ¬ tx.getD ii 0 = 48 := fun e => c142006 (by rw [e]; rfl)
                have u142029 : ¬ tx.getD ii 0 = 33 := fun e => c142011 (by rw [e]; rfl)
                have u142030 : ¬ tx.getD ii 0 = 63 := fun e => c142017 (by rw [e]; rfl)
                have u142031 : tx.getD ii 0 = 43 := (nI_eq (b := 43) (by omega) (by decide)).mp c142024
                have is9 : isn (if ii = 0 then 0 else tx.getD (ii - 1) 0) (tx.getD ii 0) = 1 := by
                  unfold isn
                  exact if_pos (by split <;> omega)
                rw [drop_c (by omega)] at hmm
                change mm + (isn (if ii = 0 then 0 else tx.getD (ii - 1) 0) (tx.getD ii 0) + ndl (tx.getD ii 0) (tx.drop (ii + 1))) = _ at hmm
                rw [is9] at hmm
                exact ih (ii + 1) (mm + 1) (by omega) (by omega) (by rw [if_neg (by omega), Nat.add_sub_cancel]; omega)
              · refine ax_iload_n hC 0 dL_nodes_42 rfl rfl ?_
                refine ax_bipush (v := 38) hC dL_nodes_43 (by decide) ?_
                refine ax_icmp_eq (tgt := 78) hC dL_nodes_45 (by decide) (fun c142032 => ?_) (fun c142032 => ?_)
                · refine ax_iinc (v := nI (mm + 1)) hC 2 [(1, .int (nI (mm + 1))), (3, .int (nI (tx.getD ii 0))), (2, .int (nI ii)), (0, .ref sa)] dL_nodes_78 rfl (nI_1 _) (by decide) rfl ?_
                  refine ax_iinc (v := nI (ii + 1)) hC 2 [(2, .int (nI (ii + 1))), (1, .int (nI (mm + 1))), (3, .int (nI (tx.getD ii 0))), (0, .ref sa)] dL_nodes_81 rfl (nI_1 _) (by decide) rfl ?_
                  refine ax_goto (tgt := 4) hC dL_nodes_84 (by decide) ?_
                  refine ax_locals [0, 1, 3] (L' := [(2, .int (nI (ii + 1))), (1, .int (nI (mm + 1))), (0, .ref sa)]) rfl ?_
                  have u142036 : ¬ tx.getD ii 0 = 48 := fun e => c142006 (by rw [e]; rfl)
                  have u142037 : ¬ tx.getD ii 0 = 33 := fun e => c142011 (by rw [e]; rfl)
                  have u142038 : ¬ tx.getD ii 0 = 63 := fun e => c142017 (by rw [e]; rfl)
                  have u142039 : ¬ tx.getD ii 0 = 43 := fun e => c142024 (by rw [e]; rfl)
                  have u142040 : tx.getD ii 0 = 38 := (nI_eq (b := 38) (by omega) (by decide)).mp c142032
                  have is9 : isn (if ii = 0 then 0 else tx.getD (ii - 1) 0) (tx.getD ii 0) = 1 := by
                    unfold isn
                    exact if_pos (by split <;> omega)
                  rw [drop_c (by omega)] at hmm
                  change mm + (isn (if ii = 0 then 0 else tx.getD (ii - 1) 0) (tx.getD ii 0) + ndl (tx.getD ii 0) (tx.drop (ii + 1))) = _ at hmm
                  rw [is9] at hmm
                  exact ih (ii + 1) (mm + 1) (by omega) (by omega) (by rw [if_neg (by omega), Nat.add_sub_cancel]; omega)
                · refine ax_iload_n hC 0 dL_nodes_48 rfl rfl ?_
                  refine ax_bipush (v := 42) hC dL_nodes_49 (by decide) ?_
                  refine ax_icmp_eq (tgt := 78) hC dL_nodes_51 (by decide) (fun c142041 => ?_) (fun c142041 => ?_)
                  · refine ax_iinc (v := nI (mm + 1)) hC 2 [(1, .int (nI (mm + 1))), (3, .int (nI (tx.getD ii 0))), (2, .int (nI ii)), (0, .ref sa)] dL_nodes_78 rfl (nI_1 _) (by decide) rfl ?_
                    refine ax_iinc (v := nI (ii + 1)) hC 2 [(2, .int (nI (ii + 1))), (1, .int (nI (mm + 1))), (3, .int (nI (tx.getD ii 0))), (0, .ref sa)] dL_nodes_81 rfl (nI_1 _) (by decide) rfl ?_
                    refine ax_goto (tgt := 4) hC dL_nodes_84 (by decide) ?_
                    refine ax_locals [0, 1, 3] (L' := [(2, .int (nI (ii + 1))), (1, .int (nI (mm + 1))), (0, .ref sa)]) rfl ?_
                    have u142045 : ¬ tx.getD ii 0 = 48 := fun e => c142006 (by rw [e]; rfl)
                    have u142046 : ¬ tx.getD ii 0 = 33 := fun e => c142011 (by rw [e]; rfl)
                    have u142047 : ¬ tx.getD ii 0 = 63 := fun e => c142017 (by rw [e]; rfl)
                    have u142048 : ¬ tx.getD ii 0 = 43 := fun e => c142024 (by rw [e]; rfl)
                    have u142049 : ¬ tx.getD ii 0 = 38 := fun e => c142032 (by rw [e]; rfl)
                    have u142050 : tx.getD ii 0 = 42 := (nI_eq (b := 42) (by omega) (by decide)).mp c142041
                    have is9 : isn (if ii = 0 then 0 else tx.getD (ii - 1) 0) (tx.getD ii 0) = 1 := by
                      unfold isn
                      exact if_pos (by split <;> omega)
                    rw [drop_c (by omega)] at hmm
                    change mm + (isn (if ii = 0 then 0 else tx.getD (ii - 1) 0) (tx.getD ii 0) + ndl (tx.getD ii 0) (tx.drop (ii + 1))) = _ at hmm
                    rw [is9] at hmm
                    exact ih (ii + 1) (mm + 1) (by omega) (by omega) (by rw [if_neg (by omega), Nat.add_sub_cancel]; omega)
                  · refine ax_iload_n hC 0 dL_nodes_54 rfl rfl ?_
                    refine ax_bipush (v := 119) hC dL_nodes_55 (by decide) ?_
                    refine ax_icmp_lt (tgt := 81) hC dL_nodes_57 (by decide) (fun c142051 => ?_) (fun c142051 => ?_)
                    · refine ax_iinc (v := nI (ii + 1)) hC 1 [(2, .int (nI (ii + 1))), (3, .int (nI (tx.getD ii 0))), (1, .int (nI mm)), (0, .ref sa)] dL_nodes_81 rfl (nI_1 _) (by decide) rfl ?_
                      refine ax_goto (tgt := 4) hC dL_nodes_84 (by decide) ?_
                      refine ax_locals [0, 2, 3] (L' := [(2, .int (nI (ii + 1))), (1, .int (nI mm)), (0, .ref sa)]) rfl ?_
                      have u142054 : ¬ tx.getD ii 0 = 48 := fun e => c142006 (by rw [e]; rfl)
                      have u142055 : ¬ tx.getD ii 0 = 33 := fun e => c142011 (by rw [e]; rfl)
                      have u142056 : ¬ tx.getD ii 0 = 63 := fun e => c142017 (by rw [e]; rfl)
                      have u142057 : ¬ tx.getD ii 0 = 43 := fun e => c142024 (by rw [e]; rfl)
                      have u142058 : ¬ tx.getD ii 0 = 38 := fun e => c142032 (by rw [e]; rfl)
                      have u142059 : ¬ tx.getD ii 0 = 42 := fun e => c142041 (by rw [e]; rfl)
                      have u142060 : tx.getD ii 0 < 119 := (nI_ltI (b := 119) (by omega) (by decide)).mp c142051
                      have is9 : isn (if ii = 0 then 0 else tx.getD (ii - 1) 0) (tx.getD ii 0) = 0 := by
                        unfold isn
                        exact if_neg (by split <;> omega)
                      rw [drop_c (by omega)] at hmm
                      change mm + (isn (if ii = 0 then 0 else tx.getD (ii - 1) 0) (tx.getD ii 0) + ndl (tx.getD ii 0) (tx.drop (ii + 1))) = _ at hmm
                      rw [is9] at hmm
                      exact ih (ii + 1) (mm) (by omega) (by omega) (by rw [if_neg (by omega), Nat.add_sub_cancel]; omega)
                    · refine ax_iload_n hC 0 dL_nodes_60 rfl rfl ?_
                      refine ax_bipush (v := 122) hC dL_nodes_61 (by decide) ?_
                      refine ax_icmp_gt (tgt := 81) hC dL_nodes_63 (by decide) (fun c142061 => ?_) (fun c142061 => ?_)
                      · refine ax_iinc (v := nI (ii + 1)) hC 1 [(2, .int (nI (ii + 1))), (3, .int (nI (tx.getD ii 0))), (1, .int (nI mm)), (0, .ref sa)] dL_nodes_81 rfl (nI_1 _) (by decide) rfl ?_
                        refine ax_goto (tgt := 4) hC dL_nodes_84 (by decide) ?_
                        refine ax_locals [0, 2, 3] (L' := [(2, .int (nI (ii + 1))), (1, .int (nI mm)), (0, .ref sa)]) rfl ?_
                        have u142064 : ¬ tx.getD ii 0 = 48 := fun e => c142006 (by rw [e]; rfl)
                        have u142065 : ¬ tx.getD ii 0 = 33 := fun e => c142011 (by rw [e]; rfl)
                        have u142066 : ¬ tx.getD ii 0 = 63 := fun e => c142017 (by rw [e]; rfl)
                        have u142067 : ¬ tx.getD ii 0 = 43 := fun e => c142024 (by rw [e]; rfl)
                        have u142068 : ¬ tx.getD ii 0 = 38 := fun e => c142032 (by rw [e]; rfl)
                        have u142069 : ¬ tx.getD ii 0 = 42 := fun e => c142041 (by rw [e]; rfl)
                        have u142070 : ¬ tx.getD ii 0 < 119 := fun e => c142051 (nI_lt (b := 119) e (by decide))
                        have u142071 : 122 < tx.getD ii 0 := (nI_ltI (a := 122) (by decide) (by omega)).mp c142061
                        have is9 : isn (if ii = 0 then 0 else tx.getD (ii - 1) 0) (tx.getD ii 0) = 0 := by
                          unfold isn
                          exact if_neg (by split <;> omega)
                        rw [drop_c (by omega)] at hmm
                        change mm + (isn (if ii = 0 then 0 else tx.getD (ii - 1) 0) (tx.getD ii 0) + ndl (tx.getD ii 0) (tx.drop (ii + 1))) = _ at hmm
                        rw [is9] at hmm
                        exact ih (ii + 1) (mm) (by omega) (by omega) (by rw [if_neg (by omega), Nat.add_sub_cancel]; omega)
                      · have u142073 : ¬ tx.getD ii 0 = 48 := fun e => c142006 (by rw [e]; rfl)
                        have u142074 : ¬ tx.getD ii 0 = 33 := fun e => c142011 (by rw [e]; rfl)
                        have u142075 : ¬ tx.getD ii 0 = 63 := fun e => c142017 (by rw [e]; rfl)
                        have u142076 : ¬ tx.getD ii 0 = 43 := fun e => c142024 (by rw [e]; rfl)
                        have u142077 : ¬ tx.getD ii 0 = 38 := fun e => c142032 (by rw [e]; rfl)
                        have u142078 : ¬ tx.getD ii 0 = 42 := fun e => c142041 (by rw [e]; rfl)
                        have u142079 : ¬ tx.getD ii 0 < 119 := fun e => c142051 (nI_lt (b := 119) e (by decide))
                        have u142080 : ¬ 122 < tx.getD ii 0 := fun e => c142061 (nI_lt (a := 122) e (by omega))
                        have hii : 1 ≤ ii := Nat.pos_of_ne_zero (fun e => by have u9 := hd0 hd e (by omega); omega)
                        have hc8 : tx.getD (ii - 1) 0 < 128 := ht.lt (by omega)
                        refine ax_aload_n hC 3 dL_nodes_66 rfl rfl ?_
                        refine ax_iload_n hC 1 dL_nodes_67 rfl rfl ?_
                        refine ax_iconst (v := 1) hC dL_nodes_68 (by decide) ?_
                        refine ax_isub hC dL_nodes_69 ?_
                        refine ax_eqi (y := nI (ii - 1)) (nI_sub (b := 1) hii) ?_
                        refine ax_sVp (mc := 0) (ms := 0) (st := []) hC hX [.int (nI (ii - 1))] (rc_s hC hX hs rfl) (c_J0_charAt_5068e l D z B lo _ _ kr kv sa _ _ (ii - 1) hs ht (by omega) (by omega)) (cwV 1 hC.1.2.2.2.2 gL_nodes_J0_charAt_5068e rfl rfl rfl (by decide +kernel) ⟨Nat.le_of_ble_eq_true rfl, Nat.le_of_ble_eq_true rfl⟩) rfl rfl (Nat.le_of_ble_eq_true rfl) dL_nodes_70 ⟨Nat.le_of_ble_eq_true rfl, Nat.le_of_ble_eq_true rfl⟩ (fun r142081 er142082 => ?_)
                        subst er142082
                        refine ax_bipush (v := 42) hC dL_nodes_73 (by decide) ?_
                        refine ax_icmp_eq (tgt := 81) hC dL_nodes_75 (by decide) (fun c142083 => ?_) (fun c142083 => ?_)
                        · refine ax_iinc (v := nI (ii + 1)) hC 1 [(2, .int (nI (ii + 1))), (3, .int (nI (tx.getD ii 0))), (1, .int (nI mm)), (0, .ref sa)] dL_nodes_81 rfl (nI_1 _) (by decide) rfl ?_
                          refine ax_goto (tgt := 4) hC dL_nodes_84 (by decide) ?_
                          refine ax_locals [0, 2, 3] (L' := [(2, .int (nI (ii + 1))), (1, .int (nI mm)), (0, .ref sa)]) rfl ?_
                          have u142086 : ¬ tx.getD ii 0 = 48 := fun e => c142006 (by rw [e]; rfl)
                          have u142087 : ¬ tx.getD ii 0 = 33 := fun e => c142011 (by rw [e]; rfl)
                          have u142088 : ¬ tx.getD ii 0 = 63 := fun e => c142017 (by rw [e]; rfl)
                          have u142089 : ¬ tx.getD ii 0 = 43 := fun e => c142024 (by rw [e]; rfl)
                          have u142090 : ¬ tx.getD ii 0 = 38 := fun e => c142032 (by rw [e]; rfl)
                          have u142091 : ¬ tx.getD ii 0 = 42 := fun e => c142041 (by rw [e]; rfl)
                          have u142092 : ¬ tx.getD ii 0 < 119 := fun e => c142051 (nI_lt (b := 119) e (by decide))
                          have u142093 : ¬ 122 < tx.getD ii 0 := fun e => c142061 (nI_lt (a := 122) e (by omega))
                          have u142094 : tx.getD (ii - 1) 0 = 42 := (nI_eq (b := 42) (by omega) (by decide)).mp c142083
                          have is9 : isn (if ii = 0 then 0 else tx.getD (ii - 1) 0) (tx.getD ii 0) = 0 := by
                            unfold isn
                            exact if_neg (by split <;> omega)
                          rw [drop_c (by omega)] at hmm
                          change mm + (isn (if ii = 0 then 0 else tx.getD (ii - 1) 0) (tx.getD ii 0) + ndl (tx.getD ii 0) (tx.drop (ii + 1))) = _ at hmm
                          rw [is9] at hmm
                          exact ih (ii + 1) (mm) (by omega) (by omega) (by rw [if_neg (by omega), Nat.add_sub_cancel]; omega)
                        · refine ax_iinc (v := nI (mm + 1)) hC 2 [(1, .int (nI (mm + 1))), (3, .int (nI (tx.getD ii 0))), (2, .int (nI ii)), (0, .ref sa)] dL_nodes_78 rfl (nI_1 _) (by decide) rfl ?_
                          refine ax_iinc (v := nI (ii + 1)) hC 2 [(2, .int (nI (ii + 1))), (1, .int (nI (mm + 1))), (3, .int (nI (tx.getD ii 0))), (0, .ref sa)] dL_nodes_81 rfl (nI_1 _) (by decide) rfl ?_
                          refine ax_goto (tgt := 4) hC dL_nodes_84 (by decide) ?_
                          refine ax_locals [0, 1, 3] (L' := [(2, .int (nI (ii + 1))), (1, .int (nI (mm + 1))), (0, .ref sa)]) rfl ?_
                          have u142098 : ¬ tx.getD ii 0 = 48 := fun e => c142006 (by rw [e]; rfl)
                          have u142099 : ¬ tx.getD ii 0 = 33 := fun e => c142011 (by rw [e]; rfl)
                          have u142100 : ¬ tx.getD ii 0 = 63 := fun e => c142017 (by rw [e]; rfl)
                          have u142101 : ¬ tx.getD ii 0 = 43 := fun e => c142024 (by rw [e]; rfl)
                          have u142102 : ¬ tx.getD ii 0 = 38 := fun e => c142032 (by rw [e]; rfl)
                          have u142103 : ¬ tx.getD ii 0 = 42 := fun e => c142041 (by rw [e]; rfl)
                          have u142104 : ¬ tx.getD ii 0 < 119 := fun e => c142051 (nI_lt (b := 119) e (by decide))
                          have u142105 : ¬ 122 < tx.getD ii 0 := fun e => c142061 (nI_lt (a := 122) e (by omega))
                          have u142106 : ¬ tx.getD (ii - 1) 0 = 42 := fun e => c142083 (by rw [e]; rfl)
                          have is9 : isn (if ii = 0 then 0 else tx.getD (ii - 1) 0) (tx.getD ii 0) = 1 := by
                            unfold isn
                            exact if_pos (by split <;> omega)
                          rw [drop_c (by omega)] at hmm
                          change mm + (isn (if ii = 0 then 0 else tx.getD (ii - 1) 0) (tx.getD ii 0) + ndl (tx.getD ii 0) (tx.drop (ii + 1))) = _ at hmm
                          rw [is9] at hmm
                          exact ih (ii + 1) (mm + 1) (by omega) (by omega) (by rw [if_neg (by omega), Nat.add_sub_cancel]; omega)
  refine ax_iconst (v := 0) hC dL_nodes_0 (by decide) ?_
  refine ax_istore_n hC [(1, .int 0), (0, .ref sa)] dL_nodes_1 rfl (by decide) rfl ?_
  refine ax_iconst (v := 0) hC dL_nodes_2 (by decide) ?_
  refine ax_istore_n hC [(2, .int 0), (1, .int 0), (0, .ref sa)] dL_nodes_3 rfl (by decide) rfl ?_
  refine ax_locals [0, 1, 2] (L' := [(2, .int 0), (1, .int 0), (0, .ref sa)]) rfl ?_
  exact loop tx.length 0 0 (by omega) (by omega) (by rw [if_pos rfl]; show 0 + ndl 0 tx = _; omega)
