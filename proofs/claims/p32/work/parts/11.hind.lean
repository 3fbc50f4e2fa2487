def HinL (z : Nat → ClassId) (h : Nat → Option va_E) (hn cm : Nat) (len : Int32) (Ls : List Nat) : Prop := ∃ (tx pr fm sp : Nat → Int32) (seen : Nat → Int64), h hn = some (.inr (5, [.ref (hn + 1), .int len, .ref cm, .ref (hn + 2), .ref (hn + 3), .ref (hn + 4), .ref (hn + 5), .int (nI Ls.length)])) ∧ h (hn + 1) = some (.inl (z 1, 3601, .inl tx)) ∧ h (hn + 2) = some (.inl (z 2, 60, .inr (.inl seen))) ∧ h (hn + 3) = some (.inl (z 1, 3600, .inl pr)) ∧ h (hn + 4) = some (.inl (z 1, 3600, .inl fm)) ∧ h (hn + 5) = some (.inl (z 1, 3600, .inl sp)) ∧ Ls.Nodup ∧ (∀ x ∈ Ls, x < 3600) ∧ (∀ j x, Ls[j]? = some x → pr j = nI x) ∧ (∀ r v, r < 60 → v < 60 → (lbit (seen r) v ↔ 60 * r + v ∈ Ls))
theorem pair_eq (un vn : Nat) : nI un * 60 + nI vn = nI (60 * un + vn) := row_eq un vn

abbrev rmX3_add : Room := { frames := 0, cells := 0, slots := 0, locals := 0 }
set_option maxRecDepth 100000 in
set_option maxHeartbeats 4000000 in
theorem c_X3_add (l : Launch) (D : va_G) (z : Nat → ClassId) (B : Heap) (lo hi : Nat) (h : Nat → Option va_E) (hn cm un vn : Nat) (len bf by_ : Int32) (Ls : List Nat) (hH : HinL z h hn cm len Ls) (hu : un < 60) (hv : vn < 60) : Met l yX3_add wsX3_add rmX3_add (KP D vwCl B lo hi h (ty6 z) [.ref hn, .int (nI un), .int (nI vn), .int bf, .int by_]) (KQv D vwCl B lo (ty6 z) (fun hi' h' => hi' = hi ∧ (∀ q, (q < hn ∨ hn + 6 ≤ q) → h' q = h q) ∧ HinL z h' hn cm len (ladd Ls (60 * un + vn)))) 0 0 (fun q => lo ≤ q) := by
  obtain ⟨tx, pr, fm, sp, seen, q0, q1, q2, q3, q4, q5, hnd, hlt, hpr, hbit⟩ := hH
  have hlen : Ls.length ≤ 3600 := nodup_len _ _ hnd hlt
  refine ax_met (by decide) rfl (Nat.le_of_ble_eq_true rfl) (L0 := [(0, .ref hn), (1, .int (nI un)), (2, .int (nI vn)), (3, .int bf), (4, .int by_)]) rfl ?_
  intro p e s m args below meth c hC hr hlocks hnm hargs
  have iX3 : ∀ w ∈ u_ws RX3 TX3 8, w ∈ wsX3_add := by decide +kernel
  refine ax_iload_n hC 1 dX3_add_0 rfl rfl ?_
  refine ax_if_lt (tgt := 39) hC dX3_add_1 (by decide) (fun c1 => ?_) (fun c1 => ?_)
  · exact absurd c1 (nI_pos (by omega))
  · refine ax_iload_n hC 1 dX3_add_4 rfl rfl ?_
    refine ax_bipush (v := 60) hC dX3_add_5 (by decide) ?_
    refine ax_icmp_ge (tgt := 39) hC dX3_add_7 (by decide) (fun c2 => ?_) (fun c2 => ?_)
    · exact absurd c2 (by rw [L_leN (k := 60) (by decide) (by omega)]; omega)
    · refine ax_iload_n hC 2 dX3_add_10 rfl rfl ?_
      refine ax_if_lt (tgt := 39) hC dX3_add_11 (by decide) (fun c3 => ?_) (fun c3 => ?_)
      · exact absurd c3 (nI_pos (by omega))
      · refine ax_iload_n hC 2 dX3_add_14 rfl rfl ?_
        refine ax_bipush (v := 60) hC dX3_add_15 (by decide) ?_
        refine ax_icmp_ge (tgt := 39) hC dX3_add_17 (by decide) (fun c4 => ?_) (fun c4 => ?_)
        · exact absurd c4 (by rw [L_leN (k := 60) (by decide) (by omega)]; omega)
        · refine ax_aload_n hC 0 dX3_add_20 rfl rfl ?_
          refine ax_getf (v := .int (nI Ls.length)) hC q0 iX3 rfl 7 (by decide) (by decide +kernel) rfl rfl dX3_add_21 ?_
          refine ax_if_lt (tgt := 39) hC dX3_add_24 (by decide) (fun c5 => ?_) (fun c5 => ?_)
          · exact absurd c5 (nI_pos (by omega))
          · refine ax_aload_n hC 0 dX3_add_27 rfl rfl ?_
            refine ax_getf (v := .int (nI Ls.length)) hC q0 iX3 rfl 7 (by decide) (by decide +kernel) rfl rfl dX3_add_28 ?_
            refine ax_aload_n hC 0 dX3_add_31 rfl rfl ?_
            refine ax_getf (v := .ref (hn + 3)) hC q0 iX3 rfl 4 (by decide) (by decide +kernel) rfl rfl dX3_add_32 ?_
            refine ax_alen (v := 3600) hC q3 1 rfl rfl dX3_add_35 ?_
            refine ax_icmp_lt (tgt := 40) hC dX3_add_36 (by decide) (fun c6 => ?_) (fun c6 => ?_)
            · refine ax_aload_n hC 0 dX3_add_40 rfl rfl ?_
              refine ax_getf (v := .ref (hn + 2)) hC q0 iX3 rfl 3 (by decide) (by decide +kernel) rfl rfl dX3_add_41 ?_
              refine ax_iload_n hC 1 dX3_add_44 rfl rfl ?_
              have b7 : vp_in (nI un) 60 := vp_in_nI (by omega) (by omega)
              refine ax_lald hC q2 2 rfl b7 dX3_add_45 ?_
              refine ax_eql (y := seen un) (by rw [nI_clamp (by omega)]) ?_
              refine ax_iload_n hC 2 dX3_add_46 rfl rfl ?_
              refine ax_lshr hC dX3_add_47 rfl ?_
              refine ax_lconst (v := 1) hC dX3_add_48 (by decide) ?_
              refine ax_land hC dX3_add_49 ?_
              refine ax_lconst (v := 0) hC dX3_add_50 (by decide) ?_
              refine ax_lcmp hC dX3_add_51 ?_
              refine ax_if_eq (tgt := 56) hC dX3_add_52 (by decide) (fun c9 => ?_) (fun c9 => ?_)
              · have hnm2 : 60 * un + vn ∉ Ls := fun q => by
                  exact (lb_test hv).mp ((lg_ne0 _).mp c9) ((hbit un vn hu hv).mpr q)
                have hroom : Ls.length < 3600 := by have q := (nI_ltL (k := 3600) (by decide) (by omega)).mp c6; omega
                refine ax_aload_n hC 0 dX3_add_56 rfl rfl ?_
                refine ax_getf (v := .ref (hn + 2)) hC q0 iX3 rfl 3 (by decide) (by decide +kernel) rfl rfl dX3_add_57 ?_
                refine ax_iload_n hC 1 dX3_add_60 rfl rfl ?_
                refine ax_dup2_11 hC dX3_add_61 rfl rfl ?_
                have b10 : vp_in (nI un) 60 := vp_in_nI (by omega) (by omega)
                refine ax_lald hC q2 2 rfl b10 dX3_add_62 ?_
                refine ax_eql (y := seen un) (by rw [nI_clamp (by omega)]) ?_
                refine ax_lconst (v := 1) hC dX3_add_63 (by decide) ?_
                refine ax_iload_n hC 2 dX3_add_64 rfl rfl ?_
                refine ax_lshl hC dX3_add_65 rfl ?_
                refine ax_lor hC dX3_add_66 ?_
                have b12 : vp_in (nI un) 60 := vp_in_nI (by omega) (by omega)
                refine ax_last hC q2 2 rfl b12 dX3_add_67 (fun h13 e14 f15 => ?_)
                rw [nI_clamp (by omega)] at e14
                have x16 : h13 hn = some (.inr (5, [.ref (hn + 1), .int len, .ref cm, .ref (hn + 2), .ref (hn + 3), .ref (hn + 4), .ref (hn + 5), .int (nI Ls.length)])) := (f15 _ (by omega)).trans q0
                have x17 : h13 (hn + 1) = some (.inl (z 1, 3601, .inl (tx))) := (f15 _ (by omega)).trans q1
                have x18 : h13 (hn + 3) = some (.inl (z 1, 3600, .inl (pr))) := (f15 _ (by omega)).trans q3
                have x19 : h13 (hn + 4) = some (.inl (z 1, 3600, .inl (fm))) := (f15 _ (by omega)).trans q4
                have x20 : h13 (hn + 5) = some (.inl (z 1, 3600, .inl (sp))) := (f15 _ (by omega)).trans q5
                refine ax_aload_n hC 0 dX3_add_68 rfl rfl ?_
                refine ax_getf (v := .ref (hn + 3)) hC x16 iX3 rfl 4 (by decide) (by decide +kernel) rfl rfl dX3_add_69 ?_
                refine ax_aload_n hC 0 dX3_add_72 rfl rfl ?_
                refine ax_getf (v := .int (nI Ls.length)) hC x16 iX3 rfl 7 (by decide) (by decide +kernel) rfl rfl dX3_add_73 ?_
                refine ax_iload_n hC 1 dX3_add_76 rfl rfl ?_
                refine ax_bipush (v := 60) hC dX3_add_77 (by decide) ?_
                refine ax_imul hC dX3_add_79 ?_
                refine ax_iload_n hC 2 dX3_add_80 rfl rfl ?_
                refine ax_iadd hC dX3_add_81 ?_
                refine ax_eqi (y := nI (60 * un + vn)) (pair_eq _ _) ?_
                have b21 : vp_in (nI Ls.length) 3600 := vp_in_nI (by omega) (by omega)
                refine ax_iast hC x18 1 rfl b21 dX3_add_82 (fun h22 e23 f24 => ?_)
                rw [nI_clamp (by omega)] at e23
                have x25 : h22 hn = some (.inr (5, [.ref (hn + 1), .int len, .ref cm, .ref (hn + 2), .ref (hn + 3), .ref (hn + 4), .ref (hn + 5), .int (nI Ls.length)])) := (f24 _ (by omega)).trans x16
                have x26 : h22 (hn + 1) = some (.inl (z 1, 3601, .inl (tx))) := (f24 _ (by omega)).trans x17
                have x27 : h22 (hn + 4) = some (.inl (z 1, 3600, .inl (fm))) := (f24 _ (by omega)).trans x19
                have x28 : h22 (hn + 5) = some (.inl (z 1, 3600, .inl (sp))) := (f24 _ (by omega)).trans x20
                have x29 : h22 (hn + 2) = some (.inl (z 2, 60, .inr (.inl (vp_updL seen un ((seen un) ||| (1 <<< ((nI vn).toInt64 &&& 63))))))) := (f24 _ (by omega)).trans e14
                refine ax_aload_n hC 0 dX3_add_83 rfl rfl ?_
                refine ax_getf (v := .ref (hn + 4)) hC x25 iX3 rfl 5 (by decide) (by decide +kernel) rfl rfl dX3_add_84 ?_
                refine ax_aload_n hC 0 dX3_add_87 rfl rfl ?_
                refine ax_getf (v := .int (nI Ls.length)) hC x25 iX3 rfl 7 (by decide) (by decide +kernel) rfl rfl dX3_add_88 ?_
                refine ax_iload_n hC 3 dX3_add_91 rfl rfl ?_
                have b30 : vp_in (nI Ls.length) 3600 := vp_in_nI (by omega) (by omega)
                refine ax_iast hC x27 1 rfl b30 dX3_add_92 (fun h31 e32 f33 => ?_)
                rw [nI_clamp (by omega)] at e32
                have x34 : h31 hn = some (.inr (5, [.ref (hn + 1), .int len, .ref cm, .ref (hn + 2), .ref (hn + 3), .ref (hn + 4), .ref (hn + 5), .int (nI Ls.length)])) := (f33 _ (by omega)).trans x25
                have x35 : h31 (hn + 1) = some (.inl (z 1, 3601, .inl (tx))) := (f33 _ (by omega)).trans x26
                have x36 : h31 (hn + 5) = some (.inl (z 1, 3600, .inl (sp))) := (f33 _ (by omega)).trans x28
                have x37 : h31 (hn + 2) = some (.inl (z 2, 60, .inr (.inl (vp_updL seen un ((seen un) ||| (1 <<< ((nI vn).toInt64 &&& 63))))))) := (f33 _ (by omega)).trans x29
                have x38 : h31 (hn + 3) = some (.inl (z 1, 3600, .inl (upd pr Ls.length (nI (60 * un + vn))))) := (f33 _ (by omega)).trans e23
                refine ax_aload_n hC 0 dX3_add_93 rfl rfl ?_
                refine ax_getf (v := .ref (hn + 5)) hC x34 iX3 rfl 6 (by decide) (by decide +kernel) rfl rfl dX3_add_94 ?_
                refine ax_aload_n hC 0 dX3_add_97 rfl rfl ?_
                refine ax_getf (v := .int (nI Ls.length)) hC x34 iX3 rfl 7 (by decide) (by decide +kernel) rfl rfl dX3_add_98 ?_
                refine ax_iload hC 4 dX3_add_101 rfl ?_
                have b39 : vp_in (nI Ls.length) 3600 := vp_in_nI (by omega) (by omega)
                refine ax_iast hC x36 1 rfl b39 dX3_add_103 (fun h40 e41 f42 => ?_)
                rw [nI_clamp (by omega)] at e41
                have x43 : h40 hn = some (.inr (5, [.ref (hn + 1), .int len, .ref cm, .ref (hn + 2), .ref (hn + 3), .ref (hn + 4), .ref (hn + 5), .int (nI Ls.length)])) := (f42 _ (by omega)).trans x34
                have x44 : h40 (hn + 1) = some (.inl (z 1, 3601, .inl (tx))) := (f42 _ (by omega)).trans x35
                have x45 : h40 (hn + 2) = some (.inl (z 2, 60, .inr (.inl (vp_updL seen un ((seen un) ||| (1 <<< ((nI vn).toInt64 &&& 63))))))) := (f42 _ (by omega)).trans x37
                have x46 : h40 (hn + 3) = some (.inl (z 1, 3600, .inl (upd pr Ls.length (nI (60 * un + vn))))) := (f42 _ (by omega)).trans x38
                have x47 : h40 (hn + 4) = some (.inl (z 1, 3600, .inl (upd fm Ls.length bf))) := (f42 _ (by omega)).trans e32
                refine ax_aload_n hC 0 dX3_add_104 rfl rfl ?_
                refine ax_dup hC dX3_add_105 rfl ?_
                refine ax_getf (v := .int (nI Ls.length)) hC x43 iX3 rfl 7 (by decide) (by decide +kernel) rfl rfl dX3_add_106 ?_
                refine ax_iconst (v := 1) hC dX3_add_109 (by decide) ?_
                refine ax_iadd hC dX3_add_110 ?_
                refine ax_eqi (y := nI (Ls.length + 1)) (nI_1 _) ?_
                refine ax_putf (v := .int (nI (Ls.length + 1))) (ty := .int) hC tyX3 x43 iX3 tyX3_ok nmX3 rfl 7 (by decide) (by decide +kernel) rfl rfl (by decide +kernel) (rfl) rfl (Nat.le_of_ble_eq_true rfl) dX3_add_111 (fun h48 e49 f50 => ?_)
                have e49 : h48 hn = some (.inr (5, [.ref (hn + 1), .int len, .ref cm, .ref (hn + 2), .ref (hn + 3), .ref (hn + 4), .ref (hn + 5), .int (nI (Ls.length + 1))])) := e49
                have x51 : h48 (hn + 1) = some (.inl (z 1, 3601, .inl (tx))) := (f50 _ (by omega)).trans x44
                have x52 : h48 (hn + 2) = some (.inl (z 2, 60, .inr (.inl (vp_updL seen un ((seen un) ||| (1 <<< ((nI vn).toInt64 &&& 63))))))) := (f50 _ (by omega)).trans x45
                have x53 : h48 (hn + 3) = some (.inl (z 1, 3600, .inl (upd pr Ls.length (nI (60 * un + vn))))) := (f50 _ (by omega)).trans x46
                have x54 : h48 (hn + 4) = some (.inl (z 1, 3600, .inl (upd fm Ls.length bf))) := (f50 _ (by omega)).trans x47
                have x55 : h48 (hn + 5) = some (.inl (z 1, 3600, .inl (upd sp Ls.length by_))) := (f50 _ (by omega)).trans e41
                refine ax_vret hC hr hlocks dX3_add_114 ?_
                refine ⟨rfl, fun q hq => ((f50 q (by omega)).trans ((f42 q (by omega)).trans ((f33 q (by omega)).trans ((f24 q (by omega)).trans (f15 q (by omega)))))), ?_⟩
                rw [ladd, if_neg hnm2]
                refine ⟨_, _, _, _, _, by rw [List.length_append]; exact e49, x51, x52, x53, x54, x55, ?_, ?_, ?_, ?_⟩
                · exact List.nodup_append.mpr ⟨hnd, by simp, fun a ha b hb => by simp at hb; subst hb; exact fun q => hnm2 (q ▸ ha)⟩
                · intro x hx; rcases List.mem_append.mp hx with hx | hx; exact hlt x hx; simp at hx; omega
                · intro j x hj
                  by_cases hjl : j < Ls.length
                  · rw [List.getElem?_append_left hjl] at hj; rw [upd, if_neg (by omega)]; exact hpr j x hj
                  · rw [List.getElem?_append_right (by omega)] at hj
                    have h0 : j - Ls.length = 0 := by have := (List.getElem?_eq_some_iff.mp hj).1; simp at this; omega
                    rw [h0] at hj; simp at hj; subst hj; rw [upd, if_pos (by omega)]
                · intro r u hr2 hu2
                  rw [vp_updL]
                  by_cases hrr : r = un
                  · subst hrr; rw [if_pos rfl, lb_set hv hu2, hbit _ _ hr2 hu2, List.mem_append]; exact or_congr Iff.rfl (by rw [List.mem_singleton]; exact ⟨fun q => by omega, fun q => by omega⟩)
                  · rw [if_neg hrr, hbit _ _ hr2 hu2, List.mem_append]; exact ⟨Or.inl, fun q => q.elim id (fun q => by rw [List.mem_singleton] at q; omega)⟩
              · refine ax_vret hC hr hlocks dX3_add_55 ?_
                have hm : 60 * un + vn ∈ Ls := by
                  have h1 := (not_congr (lg_ne0 _)).mp c9
                  exact (hbit un vn hu hv).mp (by rcases Classical.em (lbit (seen un) vn) with q | q; exact q; exact absurd ((lb_test hv).mpr q) h1)
                exact ⟨rfl, fun _ _ => rfl, by rw [ladd, if_pos hm]; exact ⟨tx, pr, fm, sp, seen, q0, q1, q2, q3, q4, q5, hnd, hlt, hpr, hbit⟩⟩
            · refine ax_vret hC hr hlocks dX3_add_39 ?_
              have hm : 60 * un + vn ∈ Ls := by
                have h1 : ¬ Ls.length < 3600 := fun q => c6 (by rw [nI_ltL (k := 3600) (by decide) (by omega)]; omega)
                exact Classical.byContradiction (fun q => h1 (nodup_room hnd hlt (by omega) q))
              exact ⟨rfl, fun _ _ => rfl, by rw [ladd, if_pos hm]; exact ⟨tx, pr, fm, sp, seen, q0, q1, q2, q3, q4, q5, hnd, hlt, hpr, hbit⟩⟩

def plh (P Q : PT) (u v : Nat) : Int32 := if pK P u = pK Q v then (if pS P u = pS Q v then (if pK P u = 3 ∨ pK P u = 4 then (if lfit (pK P u) (pLb P u) (pLb Q v) = 0 then 3 else 0) else 0) else 2) else 1

abbrev rmX3_plainHindrance : Room := { frames := 1, cells := 0, slots := 0, locals := 22 }
set_option maxRecDepth 100000 in
set_option maxHeartbeats 4000000 in
theorem c_X3_plainHindrance (l : Launch) (D : va_G) (z : Nat → ClassId) (B : Heap) (lo hi : Nat) (h : Nat → Option va_E) (aF aG u v : Nat) (ndF ndG : Int32) (TF TG : PT) (hF : PrC z h aF ndF TF) (hG : PrC z h aG ndG TG) (hwF : wfP TF) (hwG : wfP TG) (hu : u < pcap TF) (hv : v < pcap TG) : Met l yX3_plainHindrance wsX3_plainHindrance rmX3_plainHindrance (KP D vwCl B lo hi h (ty6 z) [.ref aF, .int (nI u), .ref aG, .int (nI v)]) (KQp D vwCl B lo hi h (ty6 z) (fun r => r = plh TF TG u v)) 0 0 (fun q => lo ≤ q) := by
  have hwF1 := hwF.1
  have hwG1 := hwG.1
  refine ax_met (by decide) rfl (Nat.le_of_ble_eq_true rfl) (L0 := [(0, .ref aF), (1, .int (nI u)), (2, .ref aG), (3, .int (nI v))]) rfl ?_
  intro p e s m args below meth c hC hr hlocks hnm hargs
  refine ax_aload_n hC 0 dX3_plainHindrance_0 rfl rfl ?_
  refine ax_iload_n hC 1 dX3_plainHindrance_1 rfl rfl ?_
  refine ax_callVp (st := []) hC [.int (nI u)] hF.1 rfl (c_X7_kindOf l D z B lo _ h aF _ TF (nI u) hF hwF.1) (cwV 1 hC.1.2.2.2.2 gX3_plainHindrance_X7_kindOf rfl rfl rfl (by decide +kernel) ⟨Nat.le_of_ble_eq_true rfl, Nat.le_of_ble_eq_true rfl⟩) rfl rfl (Nat.le_of_ble_eq_true rfl) dX3_plainHindrance_2 ⟨Nat.le_of_ble_eq_true rfl, Nat.le_of_ble_eq_true rfl⟩ (fun r1 er2 => ?_)
  subst er2
  refine ax_eqi (y := pK TF u) (rd_nat hu (by omega)) ?_
  refine ax_istore hC [(4, .int (pK TF u)), (0, .ref aF), (1, .int (nI u)), (2, .ref aG), (3, .int (nI v))] dX3_plainHindrance_5 (by decide) rfl ?_
  refine ax_iload hC 0 dX3_plainHindrance_7 rfl ?_
  refine ax_aload_n hC 3 dX3_plainHindrance_9 rfl rfl ?_
  refine ax_iload_n hC 4 dX3_plainHindrance_10 rfl rfl ?_
  refine ax_callVp (st := [.int (pK TF u)]) hC [.int (nI v)] hG.1 rfl (c_X7_kindOf l D z B lo _ h aG _ TG (nI v) hG hwG.1) (cwV 1 hC.1.2.2.2.2 gX3_plainHindrance_X7_kindOf rfl rfl rfl (by decide +kernel) ⟨Nat.le_of_ble_eq_true rfl, Nat.le_of_ble_eq_true rfl⟩) rfl rfl (Nat.le_of_ble_eq_true rfl) dX3_plainHindrance_11 ⟨Nat.le_of_ble_eq_true rfl, Nat.le_of_ble_eq_true rfl⟩ (fun r3 er4 => ?_)
  subst er4
  refine ax_eqi (y := pK TG v) (rd_nat hv (by omega)) ?_
  refine ax_icmp_eq (tgt := 19) hC dX3_plainHindrance_14 (by decide) (fun c5 => ?_) (fun c5 => ?_)
  · refine ax_aload_n hC 1 dX3_plainHindrance_19 rfl rfl ?_
    refine ax_iload_n hC 2 dX3_plainHindrance_20 rfl rfl ?_
    refine ax_callVp (st := []) hC [.int (nI u)] hF.1 rfl (c_X7_sortOf l D z B lo _ h aF _ TF (nI u) hF hwF.1) (cwV 1 hC.1.2.2.2.2 gX3_plainHindrance_X7_sortOf rfl rfl rfl (by decide +kernel) ⟨Nat.le_of_ble_eq_true rfl, Nat.le_of_ble_eq_true rfl⟩) rfl rfl (Nat.le_of_ble_eq_true rfl) dX3_plainHindrance_21 ⟨Nat.le_of_ble_eq_true rfl, Nat.le_of_ble_eq_true rfl⟩ (fun r6 er7 => ?_)
    subst er7
    refine ax_eqi (y := pS TF u) (rd_nat hu (by omega)) ?_
    refine ax_aload_n hC 3 dX3_plainHindrance_24 rfl rfl ?_
    refine ax_iload_n hC 4 dX3_plainHindrance_25 rfl rfl ?_
    refine ax_callVp (st := [.int (pS TF u)]) hC [.int (nI v)] hG.1 rfl (c_X7_sortOf l D z B lo _ h aG _ TG (nI v) hG hwG.1) (cwV 1 hC.1.2.2.2.2 gX3_plainHindrance_X7_sortOf rfl rfl rfl (by decide +kernel) ⟨Nat.le_of_ble_eq_true rfl, Nat.le_of_ble_eq_true rfl⟩) rfl rfl (Nat.le_of_ble_eq_true rfl) dX3_plainHindrance_26 ⟨Nat.le_of_ble_eq_true rfl, Nat.le_of_ble_eq_true rfl⟩ (fun r8 er9 => ?_)
    subst er9
    refine ax_eqi (y := pS TG v) (rd_nat hv (by omega)) ?_
    refine ax_icmp_eq (tgt := 34) hC dX3_plainHindrance_29 (by decide) (fun c10 => ?_) (fun c10 => ?_)
    · refine ax_iload hC 0 dX3_plainHindrance_34 rfl ?_
      refine ax_iconst (v := 3) hC dX3_plainHindrance_36 (by decide) ?_
      refine ax_icmp_eq (tgt := 48) hC dX3_plainHindrance_37 (by decide) (fun c11 => ?_) (fun c11 => ?_)
      · refine ax_iload hC 0 dX3_plainHindrance_48 rfl ?_
        refine ax_aload_n hC 1 dX3_plainHindrance_50 rfl rfl ?_
        refine ax_iload_n hC 2 dX3_plainHindrance_51 rfl rfl ?_
        refine ax_callVp (st := [.int (pK TF u)]) hC [.int (nI u)] hF.1 rfl (c_X7_labelsOf l D z B lo _ h aF _ TF (nI u) hF hwF.1) (cwV 1 hC.1.2.2.2.2 gX3_plainHindrance_X7_labelsOf rfl rfl rfl (by decide +kernel) ⟨Nat.le_of_ble_eq_true rfl, Nat.le_of_ble_eq_true rfl⟩) rfl rfl (Nat.le_of_ble_eq_true rfl) dX3_plainHindrance_52 ⟨Nat.le_of_ble_eq_true rfl, Nat.le_of_ble_eq_true rfl⟩ (fun r12 er13 => ?_)
        subst er13
        refine ax_eqi (y := pLb TF u) (rd_nat hu (by omega)) ?_
        refine ax_aload_n hC 3 dX3_plainHindrance_55 rfl rfl ?_
        refine ax_iload_n hC 4 dX3_plainHindrance_56 rfl rfl ?_
        refine ax_callVp (st := [.int (pLb TF u), .int (pK TF u)]) hC [.int (nI v)] hG.1 rfl (c_X7_labelsOf l D z B lo _ h aG _ TG (nI v) hG hwG.1) (cwV 1 hC.1.2.2.2.2 gX3_plainHindrance_X7_labelsOf rfl rfl rfl (by decide +kernel) ⟨Nat.le_of_ble_eq_true rfl, Nat.le_of_ble_eq_true rfl⟩) rfl rfl (Nat.le_of_ble_eq_true rfl) dX3_plainHindrance_57 ⟨Nat.le_of_ble_eq_true rfl, Nat.le_of_ble_eq_true rfl⟩ (fun r14 er15 => ?_)
        subst er15
        refine ax_eqi (y := pLb TG v) (rd_nat hv (by omega)) ?_
        refine ax_callSp (st := []) hC [.int (pK TF u), .int (pLb TF u), .int (pLb TG v)] (c_X1_labelsFit l D z B lo _ h (pK TF u) (pLb TF u) (pLb TG v)) (va_cwS 3 hC.1.2.2.2.2 gX3_plainHindrance_X1_labelsFit rfl rfl rfl (by decide +kernel) ⟨Nat.le_of_ble_eq_true rfl, Nat.le_of_ble_eq_true rfl⟩) rfl rfl (Nat.le_of_ble_eq_true rfl) dX3_plainHindrance_60 ⟨Nat.le_of_ble_eq_true rfl, Nat.le_of_ble_eq_true rfl⟩ (fun r16 er17 => ?_)
        subst er17
        refine ax_if_eq (tgt := 70) hC dX3_plainHindrance_63 (by decide) (fun c18 => ?_) (fun c18 => ?_)
        · refine ax_iconst (v := 3) hC dX3_plainHindrance_70 (by decide) ?_
          refine ax_iret hC hr hlocks dX3_plainHindrance_71 ?_
          refine ⟨?_, rfl, rfl⟩
          rw [plh, if_pos c5, if_pos c10, if_pos (Or.inl c11), if_pos c18]
        · refine ax_iconst (v := 0) hC dX3_plainHindrance_66 (by decide) ?_
          refine ax_goto (tgt := 71) hC dX3_plainHindrance_67 (by decide) ?_
          refine ax_iret hC hr hlocks dX3_plainHindrance_71 ?_
          refine ⟨?_, rfl, rfl⟩
          rw [plh, if_pos c5, if_pos c10, if_pos (Or.inl c11), if_neg c18]
      · refine ax_iload hC 0 dX3_plainHindrance_40 rfl ?_
        refine ax_iconst (v := 4) hC dX3_plainHindrance_42 (by decide) ?_
        refine ax_icmp_eq (tgt := 48) hC dX3_plainHindrance_43 (by decide) (fun c19 => ?_) (fun c19 => ?_)
        · refine ax_iload hC 0 dX3_plainHindrance_48 rfl ?_
          refine ax_aload_n hC 1 dX3_plainHindrance_50 rfl rfl ?_
          refine ax_iload_n hC 2 dX3_plainHindrance_51 rfl rfl ?_
          refine ax_callVp (st := [.int (pK TF u)]) hC [.int (nI u)] hF.1 rfl (c_X7_labelsOf l D z B lo _ h aF _ TF (nI u) hF hwF.1) (cwV 1 hC.1.2.2.2.2 gX3_plainHindrance_X7_labelsOf rfl rfl rfl (by decide +kernel) ⟨Nat.le_of_ble_eq_true rfl, Nat.le_of_ble_eq_true rfl⟩) rfl rfl (Nat.le_of_ble_eq_true rfl) dX3_plainHindrance_52 ⟨Nat.le_of_ble_eq_true rfl, Nat.le_of_ble_eq_true rfl⟩ (fun r20 er21 => ?_)
          subst er21
          refine ax_eqi (y := pLb TF u) (rd_nat hu (by omega)) ?_
          refine ax_aload_n hC 3 dX3_plainHindrance_55 rfl rfl ?_
          refine ax_iload_n hC 4 dX3_plainHindrance_56 rfl rfl ?_
          refine ax_callVp (st := [.int (pLb TF u), .int (pK TF u)]) hC [.int (nI v)] hG.1 rfl (c_X7_labelsOf l D z B lo _ h aG _ TG (nI v) hG hwG.1) (cwV 1 hC.1.2.2.2.2 gX3_plainHindrance_X7_labelsOf rfl rfl rfl (by decide +kernel) ⟨Nat.le_of_ble_eq_true rfl, Nat.le_of_ble_eq_true rfl⟩) rfl rfl (Nat.le_of_ble_eq_true rfl) dX3_plainHindrance_57 ⟨Nat.le_of_ble_eq_true rfl, Nat.le_of_ble_eq_true rfl⟩ (fun r22 er23 => ?_)
          subst er23
          refine ax_eqi (y := pLb TG v) (rd_nat hv (by omega)) ?_
          refine ax_callSp (st := []) hC [.int (pK TF u), .int (pLb TF u), .int (pLb TG v)] (c_X1_labelsFit l D z B lo _ h (pK TF u) (pLb TF u) (pLb TG v)) (va_cwS 3 hC.1.2.2.2.2 gX3_plainHindrance_X1_labelsFit rfl rfl rfl (by decide +kernel) ⟨Nat.le_of_ble_eq_true rfl, Nat.le_of_ble_eq_true rfl⟩) rfl rfl (Nat.le_of_ble_eq_true rfl) dX3_plainHindrance_60 ⟨Nat.le_of_ble_eq_true rfl, Nat.le_of_ble_eq_true rfl⟩ (fun r24 er25 => ?_)
          subst er25
          refine ax_if_eq (tgt := 70) hC dX3_plainHindrance_63 (by decide) (fun c26 => ?_) (fun c26 => ?_)
          · refine ax_iconst (v := 3) hC dX3_plainHindrance_70 (by decide) ?_
            refine ax_iret hC hr hlocks dX3_plainHindrance_71 ?_
            refine ⟨?_, rfl, rfl⟩
            rw [plh, if_pos c5, if_pos c10, if_pos (Or.inr c19), if_pos c26]
          · refine ax_iconst (v := 0) hC dX3_plainHindrance_66 (by decide) ?_
            refine ax_goto (tgt := 71) hC dX3_plainHindrance_67 (by decide) ?_
            refine ax_iret hC hr hlocks dX3_plainHindrance_71 ?_
            refine ⟨?_, rfl, rfl⟩
            rw [plh, if_pos c5, if_pos c10, if_pos (Or.inr c19), if_neg c26]
        · refine ax_iconst (v := 0) hC dX3_plainHindrance_46 (by decide) ?_
          refine ax_iret hC hr hlocks dX3_plainHindrance_47 ?_
          refine ⟨?_, rfl, rfl⟩
          rw [plh, if_pos c5, if_pos c10, if_neg (by rintro (q | q); exact c11 q; exact c19 q)]
    · refine ax_iconst (v := 2) hC dX3_plainHindrance_32 (by decide) ?_
      refine ax_iret hC hr hlocks dX3_plainHindrance_33 ?_
      refine ⟨?_, rfl, rfl⟩
      rw [plh, if_pos c5, if_neg c10]
  · refine ax_iconst (v := 1) hC dX3_plainHindrance_17 (by decide) ?_
    refine ax_iret hC hr hlocks dX3_plainHindrance_18 ?_
    refine ⟨?_, rfl, rfl⟩
    rw [plh, if_neg c5]
