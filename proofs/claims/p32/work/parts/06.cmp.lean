/-- the rows of pairs, as a list of codes -/
def CmpL (z : Nat → ClassId) (h : Nat → Option va_E) (c : Nat) (Ls : List Nat) : Prop := ∃ (seen : Nat → Int64) (pairs : Nat → Int32), h c = some (.inr (3, [.ref (c + 1), .ref (c + 2), .int (nI Ls.length)])) ∧ h (c + 1) = some (.inl (z 2, 120, .inr (.inl seen))) ∧ h (c + 2) = some (.inl (z 1, 7200, .inl pairs)) ∧ Ls.Nodup ∧ (∀ x ∈ Ls, x < 7200) ∧ (∀ j x, Ls[j]? = some x → pairs j = nI x) ∧ (∀ r v, r < 120 → v < 60 → (lbit (seen r) v ↔ 60 * r + v ∈ Ls))
theorem nI_ltL {n : Nat} {v : Int32} {k : Int} (hv : v.toInt = k) (hn : n < 2 ^ 31) : nI n < v ↔ (n : Int) < k := by rw [i32_lt, nI_toInt hn, hv]
theorem nI_leL {n : Nat} {v : Int32} {k : Int} (hv : v.toInt = k) (hn : n < 2 ^ 31) : nI n ≤ v ↔ (n : Int) ≤ k := by rw [i32_le, nI_toInt hn, hv]
theorem L_ltN {n : Nat} {v : Int32} {k : Int} (hv : v.toInt = k) (hn : n < 2 ^ 31) : v < nI n ↔ k < (n : Int) := by rw [i32_lt, nI_toInt hn, hv]
theorem L_leN {n : Nat} {v : Int32} {k : Int} (hv : v.toInt = k) (hn : n < 2 ^ 31) : v ≤ nI n ↔ k ≤ (n : Int) := by rw [i32_le, nI_toInt hn, hv]
theorem nI_mul' (a b : Nat) : nI a * nI b = nI (a * b) := by
  show Int32.ofNat a * Int32.ofNat b = Int32.ofNat (a * b)
  rw [← Int32.ofNat_mul]
theorem row_eq (sd un : Nat) : nI sd * 60 + nI un = nI (60 * sd + un) := by
  rw [show (60 : Int32) = nI 60 from rfl, nI_mul', nI_add, Nat.mul_comm]
theorem code_eq (sd un vn : Nat) : nI sd * 3600 + nI un * 60 + nI vn = nI (3600 * sd + 60 * un + vn) := by
  rw [show (60 : Int32) = nI 60 from rfl, show (3600 : Int32) = nI 3600 from rfl, nI_mul', nI_mul', nI_add, nI_add, Nat.mul_comm, Nat.mul_comm un]

abbrev rmX1_add : Room := { frames := 0, cells := 0, slots := 0, locals := 0 }
set_option maxRecDepth 100000 in
set_option maxHeartbeats 4000000 in
theorem c_X1_add (l : Launch) (D : va_G) (z : Nat → ClassId) (B : Heap) (lo hi : Nat) (h : Nat → Option va_E) (cm sd un vn : Nat) (Ls : List Nat) (hL : CmpL z h cm Ls) (hs : sd < 2) (hu : un < 60) (hv : vn < 60) : Met l yX1_add wsX1_add rmX1_add (KP D vwCl B lo hi h (ty6 z) [.ref cm, .int (nI sd), .int (nI un), .int (nI vn)]) (KQv D vwCl B lo (ty6 z) (fun hi' h' => hi' = hi ∧ (∀ q, (q < cm ∨ cm + 3 ≤ q) → h' q = h q) ∧ CmpL z h' cm (ladd Ls (3600 * sd + 60 * un + vn)))) 0 0 (fun q => lo ≤ q) := by
  obtain ⟨seen, pairs, q1, q2, q3, hnd, hlt, hpr, hbit⟩ := hL
  have hlen : Ls.length ≤ 7200 := nodup_len _ _ hnd hlt
  refine ax_met (by decide) rfl (Nat.le_of_ble_eq_true rfl) (L0 := [(0, .ref cm), (1, .int (nI sd)), (2, .int (nI un)), (3, .int (nI vn))]) rfl ?_
  intro p e s m args below meth c hC hr hlocks hnm hargs
  have iX1 : ∀ w ∈ u_ws RX1 TX1 3, w ∈ wsX1_add := by decide +kernel
  refine ax_iload_n hC 2 dX1_add_0 rfl rfl ?_
  refine ax_if_lt (tgt := 29) hC dX1_add_1 (by decide) (fun c1 => ?_) (fun c1 => ?_)
  · exact absurd c1 (nI_pos (by omega))
  · refine ax_iload_n hC 2 dX1_add_4 rfl rfl ?_
    refine ax_bipush (v := 60) hC dX1_add_5 (by decide) ?_
    refine ax_icmp_ge (tgt := 29) hC dX1_add_7 (by decide) (fun c2 => ?_) (fun c2 => ?_)
    · exact absurd c2 (by rw [L_leN (k := 60) (by decide) (by omega)]; omega)
    · refine ax_iload_n hC 3 dX1_add_10 rfl rfl ?_
      refine ax_if_lt (tgt := 29) hC dX1_add_11 (by decide) (fun c3 => ?_) (fun c3 => ?_)
      · exact absurd c3 (nI_pos (by omega))
      · refine ax_iload_n hC 3 dX1_add_14 rfl rfl ?_
        refine ax_bipush (v := 60) hC dX1_add_15 (by decide) ?_
        refine ax_icmp_ge (tgt := 29) hC dX1_add_17 (by decide) (fun c4 => ?_) (fun c4 => ?_)
        · exact absurd c4 (by rw [L_leN (k := 60) (by decide) (by omega)]; omega)
        · refine ax_iload_n hC 1 dX1_add_20 rfl rfl ?_
          refine ax_if_lt (tgt := 29) hC dX1_add_21 (by decide) (fun c5 => ?_) (fun c5 => ?_)
          · exact absurd c5 (nI_pos (by omega))
          · refine ax_iload_n hC 1 dX1_add_24 rfl rfl ?_
            refine ax_iconst (v := 1) hC dX1_add_25 (by decide) ?_
            refine ax_icmp_le (tgt := 30) hC dX1_add_26 (by decide) (fun c6 => ?_) (fun c6 => ?_)
            · refine ax_iload_n hC 1 dX1_add_30 rfl rfl ?_
              refine ax_bipush (v := 60) hC dX1_add_31 (by decide) ?_
              refine ax_imul hC dX1_add_33 ?_
              refine ax_iload_n hC 2 dX1_add_34 rfl rfl ?_
              refine ax_iadd hC dX1_add_35 ?_
              refine ax_eqi (y := nI (60 * sd + un)) (row_eq _ _) ?_
              refine ax_istore hC [(4, .int (nI (60 * sd + un))), (0, .ref cm), (1, .int (nI sd)), (2, .int (nI un)), (3, .int (nI vn))] dX1_add_36 (by decide) rfl ?_
              refine ax_aload_n hC 1 dX1_add_38 rfl rfl ?_
              refine ax_getf (v := .ref (cm + 1)) hC q1 iX1 rfl 0 (by decide) (by decide +kernel) rfl rfl dX1_add_39 ?_
              refine ax_iload hC 0 dX1_add_42 rfl ?_
              have b7 : vp_in (nI (60 * sd + un)) 120 := vp_in_nI (by omega) (by omega)
              refine ax_lald hC q2 2 rfl b7 dX1_add_44 ?_
              refine ax_eql (y := seen (60 * sd + un)) (by rw [nI_clamp (by omega)]) ?_
              refine ax_iload_n hC 4 dX1_add_45 rfl rfl ?_
              refine ax_lshr hC dX1_add_46 rfl ?_
              refine ax_lconst (v := 1) hC dX1_add_47 (by decide) ?_
              refine ax_land hC dX1_add_48 ?_
              refine ax_lconst (v := 0) hC dX1_add_49 (by decide) ?_
              refine ax_lcmp hC dX1_add_50 ?_
              refine ax_if_ne (tgt := 73) hC dX1_add_51 (by decide) (fun c9 => ?_) (fun c9 => ?_)
              · refine ax_vret hC hr hlocks dX1_add_73 ?_
                have hm : 3600 * sd + 60 * un + vn ∈ Ls := by
                  have h1 := (not_congr (lg_ne0 _)).mp c9
                  have h2 := (hbit (60 * sd + un) vn (by omega) hv).mp (by rcases Classical.em (lbit (seen (60 * sd + un)) vn) with q | q; exact q; exact absurd ((lb_test hv).mpr q) h1)
                  rwa [show 3600 * sd + 60 * un + vn = 60 * (60 * sd + un) + vn by omega]
                exact ⟨rfl, fun _ _ => rfl, by rw [ladd, if_pos hm]; exact ⟨seen, pairs, q1, q2, q3, hnd, hlt, hpr, hbit⟩⟩
              · have hnm2 : 3600 * sd + 60 * un + vn ∉ Ls := fun q => by
                  have h2 := (hbit (60 * sd + un) vn (by omega) hv).mpr (by rwa [show 3600 * sd + 60 * un + vn = 60 * (60 * sd + un) + vn by omega] at q)
                  exact (lb_test hv).mp ((lg_ne0 _).mp (c9)) h2
                have hroom : Ls.length < 7200 := nodup_room hnd hlt (by omega) hnm2
                refine ax_aload_n hC 1 dX1_add_54 rfl rfl ?_
                refine ax_getf (v := .int (nI Ls.length)) hC q1 iX1 rfl 2 (by decide) (by decide +kernel) rfl rfl dX1_add_55 ?_
                refine ax_if_lt (tgt := 73) hC dX1_add_58 (by decide) (fun c10 => ?_) (fun c10 => ?_)
                · exact absurd c10 (nI_pos (by omega))
                · refine ax_aload_n hC 1 dX1_add_61 rfl rfl ?_
                  refine ax_getf (v := .int (nI Ls.length)) hC q1 iX1 rfl 2 (by decide) (by decide +kernel) rfl rfl dX1_add_62 ?_
                  refine ax_aload_n hC 1 dX1_add_65 rfl rfl ?_
                  refine ax_getf (v := .ref (cm + 2)) hC q1 iX1 rfl 1 (by decide) (by decide +kernel) rfl rfl dX1_add_66 ?_
                  refine ax_alen (v := 7200) hC q3 1 rfl rfl dX1_add_69 ?_
                  refine ax_icmp_lt (tgt := 74) hC dX1_add_70 (by decide) (fun c11 => ?_) (fun c11 => ?_)
                  · refine ax_aload_n hC 1 dX1_add_74 rfl rfl ?_
                    refine ax_getf (v := .ref (cm + 1)) hC q1 iX1 rfl 0 (by decide) (by decide +kernel) rfl rfl dX1_add_75 ?_
                    refine ax_iload hC 0 dX1_add_78 rfl ?_
                    refine ax_dup2_11 hC dX1_add_80 rfl rfl ?_
                    have b12 : vp_in (nI (60 * sd + un)) 120 := vp_in_nI (by omega) (by omega)
                    refine ax_lald hC q2 2 rfl b12 dX1_add_81 ?_
                    refine ax_eql (y := seen (60 * sd + un)) (by rw [nI_clamp (by omega)]) ?_
                    refine ax_lconst (v := 1) hC dX1_add_82 (by decide) ?_
                    refine ax_iload_n hC 4 dX1_add_83 rfl rfl ?_
                    refine ax_lshl hC dX1_add_84 rfl ?_
                    refine ax_lor hC dX1_add_85 ?_
                    have b14 : vp_in (nI (60 * sd + un)) 120 := vp_in_nI (by omega) (by omega)
                    refine ax_last hC q2 2 rfl b14 dX1_add_86 (fun h15 e16 f17 => ?_)
                    rw [nI_clamp (by omega)] at e16
                    have x18 : h15 cm = some (.inr (3, [.ref (cm + 1), .ref (cm + 2), .int (nI Ls.length)])) := (f17 _ (by omega)).trans q1
                    have x19 : h15 (cm + 2) = some (.inl (z 1, 7200, .inl (pairs))) := (f17 _ (by omega)).trans q3
                    refine ax_aload_n hC 1 dX1_add_87 rfl rfl ?_
                    refine ax_getf (v := .ref (cm + 2)) hC x18 iX1 rfl 1 (by decide) (by decide +kernel) rfl rfl dX1_add_88 ?_
                    refine ax_aload_n hC 1 dX1_add_91 rfl rfl ?_
                    refine ax_getf (v := .int (nI Ls.length)) hC x18 iX1 rfl 2 (by decide) (by decide +kernel) rfl rfl dX1_add_92 ?_
                    refine ax_iload_n hC 2 dX1_add_95 rfl rfl ?_
                    refine ax_sipush (v := 3600) hC dX1_add_96 (by decide) ?_
                    refine ax_imul hC dX1_add_99 ?_
                    refine ax_iload_n hC 3 dX1_add_100 rfl rfl ?_
                    refine ax_bipush (v := 60) hC dX1_add_101 (by decide) ?_
                    refine ax_imul hC dX1_add_103 ?_
                    refine ax_iadd hC dX1_add_104 ?_
                    refine ax_iload_n hC 4 dX1_add_105 rfl rfl ?_
                    refine ax_iadd hC dX1_add_106 ?_
                    refine ax_eqi (y := nI (3600 * sd + 60 * un + vn)) (code_eq _ _ _) ?_
                    have b20 : vp_in (nI Ls.length) 7200 := vp_in_nI (by omega) (by omega)
                    refine ax_iast hC x19 1 rfl b20 dX1_add_107 (fun h21 e22 f23 => ?_)
                    rw [nI_clamp (by omega)] at e22
                    have x24 : h21 cm = some (.inr (3, [.ref (cm + 1), .ref (cm + 2), .int (nI Ls.length)])) := (f23 _ (by omega)).trans x18
                    have x25 : h21 (cm + 1) = some (.inl (z 2, 120, .inr (.inl (vp_updL seen (60 * sd + un) ((seen (60 * sd + un)) ||| (1 <<< ((nI vn).toInt64 &&& 63))))))) := (f23 _ (by omega)).trans e16
                    refine ax_aload_n hC 1 dX1_add_108 rfl rfl ?_
                    refine ax_dup hC dX1_add_109 rfl ?_
                    refine ax_getf (v := .int (nI Ls.length)) hC x24 iX1 rfl 2 (by decide) (by decide +kernel) rfl rfl dX1_add_110 ?_
                    refine ax_iconst (v := 1) hC dX1_add_113 (by decide) ?_
                    refine ax_iadd hC dX1_add_114 ?_
                    refine ax_eqi (y := nI (Ls.length + 1)) (nI_1 _) ?_
                    refine ax_putf (v := .int (nI (Ls.length + 1))) (ty := .int) hC tyX1 x24 iX1 tyX1_ok nmX1 rfl 2 (by decide) (by decide +kernel) rfl rfl (by decide +kernel) (rfl) rfl (Nat.le_of_ble_eq_true rfl) dX1_add_115 (fun h26 e27 f28 => ?_)
                    have e27 : h26 cm = some (.inr (3, [.ref (cm + 1), .ref (cm + 2), .int (nI (Ls.length + 1))])) := e27
                    have x29 : h26 (cm + 1) = some (.inl (z 2, 120, .inr (.inl (vp_updL seen (60 * sd + un) ((seen (60 * sd + un)) ||| (1 <<< ((nI vn).toInt64 &&& 63))))))) := (f28 _ (by omega)).trans x25
                    have x30 : h26 (cm + 2) = some (.inl (z 1, 7200, .inl (upd pairs Ls.length (nI (3600 * sd + 60 * un + vn))))) := (f28 _ (by omega)).trans e22
                    refine ax_vret hC hr hlocks dX1_add_118 ?_
                    refine ⟨rfl, fun q hq => ((f28 q (by omega)).trans ((f23 q (by omega)).trans (f17 q (by omega)))), ?_⟩
                    rw [ladd, if_neg hnm2]
                    refine ⟨_, _, by rw [List.length_append]; exact e27, x29, x30, ?_, ?_, ?_, ?_⟩
                    · exact List.nodup_append.mpr ⟨hnd, by simp, fun a ha b hb => by simp at hb; subst hb; exact fun q => hnm2 (q ▸ ha)⟩
                    · intro x hx; rcases List.mem_append.mp hx with hx | hx; exact hlt x hx; simp at hx; omega
                    · intro j x hj
                      by_cases hjl : j < Ls.length
                      · rw [List.getElem?_append_left hjl] at hj; rw [upd, if_neg (by omega)]; exact hpr j x hj
                      · rw [List.getElem?_append_right (by omega)] at hj
                        have h0 : j - Ls.length = 0 := by have := (List.getElem?_eq_some_iff.mp hj).1; simp at this; omega
                        rw [h0] at hj; simp at hj; subst hj; rw [upd, if_pos (by omega)]
                    · intro r u hr2 hu2
                      rw [vp_updL]
                      by_cases hrr : r = 60 * sd + un
                      · subst hrr; rw [if_pos rfl, lb_set hv hu2, hbit _ _ hr2 hu2, List.mem_append]; exact or_congr Iff.rfl (by rw [List.mem_singleton]; exact ⟨fun q => by omega, fun q => by omega⟩)
                      · rw [if_neg hrr, hbit _ _ hr2 hu2, List.mem_append]; exact ⟨Or.inl, fun q => q.elim id (fun q => by rw [List.mem_singleton] at q; omega)⟩
                  · exact absurd (by rw [nI_ltL (k := 7200) (by decide) (by omega)]; omega) c11
            · exact absurd (by rw [nI_leL (k := 1) (by decide) (by omega)]; omega) c6

def lfit (k x y : Int32) : Int32 := if k = 3 then (if x &&& (y ^^^ (-1)) = 0 then 1 else 0) else (if y &&& (x ^^^ (-1)) = 0 then 1 else 0)

abbrev rmX1_labelsFit : Room := { frames := 0, cells := 0, slots := 0, locals := 0 }
set_option maxRecDepth 100000 in
set_option maxHeartbeats 4000000 in
theorem c_X1_labelsFit (l : Launch) (D : va_G) (z : Nat → ClassId) (B : Heap) (lo hi : Nat) (h : Nat → Option va_E) (k x y : Int32)  : Met l yX1_labelsFit wsX1_labelsFit rmX1_labelsFit (KP D vwCl B lo hi h (ty6 z) [.int k, .int x, .int y]) (KQp D vwCl B lo hi h (ty6 z) (fun r => r = lfit k x y)) 0 0 (fun q => lo ≤ q) := by
  refine ax_met (by decide) rfl (Nat.le_of_ble_eq_true rfl) (L0 := [(0, .int k), (1, .int x), (2, .int y)]) rfl ?_
  intro p e s m args below meth c hC hr hlocks hnm hargs
  refine ax_iload_n hC 0 dX1_labelsFit_0 rfl rfl ?_
  refine ax_iconst (v := 3) hC dX1_labelsFit_1 (by decide) ?_
  refine ax_icmp_ne (tgt := 21) hC dX1_labelsFit_2 (by decide) (fun c1 => ?_) (fun c1 => ?_)
  · refine ax_iload_n hC 2 dX1_labelsFit_21 rfl rfl ?_
    refine ax_iload_n hC 1 dX1_labelsFit_22 rfl rfl ?_
    refine ax_iconst (v := (-1)) hC dX1_labelsFit_23 (by decide) ?_
    refine ax_ixor hC dX1_labelsFit_24 ?_
    refine ax_iand hC dX1_labelsFit_25 ?_
    refine ax_if_ne (tgt := 33) hC dX1_labelsFit_26 (by decide) (fun c2 => ?_) (fun c2 => ?_)
    · refine ax_iconst (v := 0) hC dX1_labelsFit_33 (by decide) ?_
      refine ax_zret hC hr hlocks dX1_labelsFit_34 (by decide) ?_
      refine ⟨?_, rfl, rfl⟩
      simp only [lfit]
      rw [if_neg c1, if_neg c2]
    · refine ax_iconst (v := 1) hC dX1_labelsFit_29 (by decide) ?_
      refine ax_goto (tgt := 34) hC dX1_labelsFit_30 (by decide) ?_
      refine ax_zret hC hr hlocks dX1_labelsFit_34 (by decide) ?_
      refine ⟨?_, rfl, rfl⟩
      simp only [lfit]
      rw [if_neg c1, if_pos c2]
  · refine ax_iload_n hC 1 dX1_labelsFit_5 rfl rfl ?_
    refine ax_iload_n hC 2 dX1_labelsFit_6 rfl rfl ?_
    refine ax_iconst (v := (-1)) hC dX1_labelsFit_7 (by decide) ?_
    refine ax_ixor hC dX1_labelsFit_8 ?_
    refine ax_iand hC dX1_labelsFit_9 ?_
    refine ax_if_ne (tgt := 17) hC dX1_labelsFit_10 (by decide) (fun c3 => ?_) (fun c3 => ?_)
    · refine ax_iconst (v := 0) hC dX1_labelsFit_17 (by decide) ?_
      refine ax_goto (tgt := 34) hC dX1_labelsFit_18 (by decide) ?_
      refine ax_zret hC hr hlocks dX1_labelsFit_34 (by decide) ?_
      refine ⟨?_, rfl, rfl⟩
      simp only [lfit]
      rw [if_pos c1, if_neg c3]
    · refine ax_iconst (v := 1) hC dX1_labelsFit_13 (by decide) ?_
      refine ax_goto (tgt := 34) hC dX1_labelsFit_14 (by decide) ?_
      refine ax_zret hC hr hlocks dX1_labelsFit_34 (by decide) ?_
      refine ⟨?_, rfl, rfl⟩
      simp only [lfit]
      rw [if_pos c1, if_pos c3]
