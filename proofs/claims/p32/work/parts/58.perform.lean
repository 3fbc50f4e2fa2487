abbrev rmX11_accuse : Room := { frames := 2, cells := 0, slots := 0, locals := 41 }
set_option maxRecDepth 100000 in
set_option maxHeartbeats 4000000 in
theorem c_X11_accuse_1 (l : Launch) (D : va_G) (z : Nat → ClassId) (B : Heap) (lo hi : Nat) (h : Nat → Option va_E) (o : Nat) (on kp : Int32) (sn : Nat) (rm st dn wt br gv ed : Int32) (ee a n q9 : Nat) (hld en es mo nd9 : Int32) (lf : Nat → Int32) (T : PT) (pa st9 nu en9 ca : Int32) (cf : Nat → Int32) (vv : Int32) (hO : ObS h o on kp) (hRm : RmS z h (o + 41) (nI sn) rm st dn wt br gv ed) (hE : EndS z h (o + 41 + 5 + 2 * ee) hld (some a) (nI n) en es (nI q9) mo lf) (hP : PrC z h a nd9 T) (hcap : pcap T ≤ 60) (hn : n < pcap T) (hee : ee < 16) (hB : BlmS z h (o + 41 + 3) pa st9 nu en9 ca cf) (hkk : pK T n = 1) (hoa : o + 147 ≤ a) : Met l yX11_accuse wsX11_accuse rmX11_accuse (KP D vwCl B lo hi h (ty6 z) [.ref o, .int hld, .int (nI ee), .int 1, .int vv, .int 3]) (KQv D vwCl B lo (ty6 z) (fun hi' h' => hi' = hi ∧ (∀ q, (q < o + 41 + 3 ∨ o + 41 + 3 + 2 ≤ q) → h' q = h q) ∧ ∃ cf', BlmS z h' (o + 41 + 3) hld st 3 (nI ee) 2 cf' ∧ cf' 0 = cf' 1)) 0 0 (fun q => lo ≤ q) := by
  refine ax_met (by decide) rfl (Nat.le_of_ble_eq_true rfl) (L0 := [(0, .ref o), (1, .int hld), (2, .int (nI ee)), (3, .int 1), (4, .int vv), (5, .int 3)]) rfl ?_
  intro p e s m args below meth c hC hr hlocks hnm hargs
  have iX11 : ∀ w ∈ u_ws RX11 TX11 13, w ∈ wsX11_accuse := by decide +kernel
  have iX9 : ∀ w ∈ u_ws RX9 TX9 11, w ∈ wsX11_accuse := by decide +kernel
  obtain ⟨hRo, ef, hef, hefi⟩ := id hRm
  refine ax_iload_n hC 2 dX11_accuse_0 rfl rfl ?_
  refine ax_if_lt (tgt := 16) hC dX11_accuse_1 (by decide) (fun c1 => ?_) (fun c1 => ?_)
  · exact absurd c1 (nI_pos (by omega))
  · refine ax_iload_n hC 2 dX11_accuse_4 rfl rfl ?_
    refine ax_aload_n hC 0 dX11_accuse_5 rfl rfl ?_
    refine ax_getf (v := .ref (o + 41)) hC hO iX11 rfl 10 (by decide) (by decide +kernel) rfl rfl dX11_accuse_6 ?_
    refine ax_getf (v := .ref (o + 41 + 1)) hC hRo iX9 rfl 0 (by decide) (by decide +kernel) rfl rfl dX11_accuse_9 ?_
    refine ax_alen (v := 16) hC hef 3 rfl rfl dX11_accuse_12 ?_
    refine ax_icmp_lt (tgt := 17) hC dX11_accuse_13 (by decide) (fun c2 => ?_) (fun c2 => ?_)
    · refine ax_aload_n hC 0 dX11_accuse_17 rfl rfl ?_
      refine ax_getf (v := .ref (o + 41)) hC hO iX11 rfl 10 (by decide) (by decide +kernel) rfl rfl dX11_accuse_18 ?_
      refine ax_getf (v := .ref (o + 41 + 1)) hC hRo iX9 rfl 0 (by decide) (by decide +kernel) rfl rfl dX11_accuse_21 ?_
      refine ax_iload_n hC 2 dX11_accuse_24 rfl rfl ?_
      have b3 : vp_in (nI ee) 16 := vp_in_nI (by omega) (by omega)
      refine ax_aald hC hef 3 rfl b3 dX11_accuse_25 ?_
      refine ax_eqq (y := ef ee) (by rw [nI_clamp (by omega)] <;> rfl) ?_
      refine ax_eqq (y := some (o + 41 + 5 + 2 * ee)) (hefi ee (by omega)) ?_
      refine ax_astore hC [(6, .ref (o + 41 + 5 + 2 * ee)), (0, .ref o), (1, .int hld), (2, .int (nI ee)), (3, .int 1), (4, .int vv), (5, .int 3)] dX11_accuse_26 (by decide) rfl ?_
      refine ax_aload_n hC 1 dX11_accuse_28 rfl rfl ?_
      refine ax_getf (v := .ref (o + 41)) hC hO iX11 rfl 10 (by decide) (by decide +kernel) rfl rfl dX11_accuse_29 ?_
      refine ax_getf (v := .ref (o + 41 + 3)) hC hRo iX9 rfl 2 (by decide) (by decide +kernel) rfl rfl dX11_accuse_32 ?_
      refine ax_astore hC [(7, .ref (o + 41 + 3)), (6, .ref (o + 41 + 5 + 2 * ee)), (0, .ref o), (1, .int hld), (2, .int (nI ee)), (3, .int 1), (4, .int vv), (5, .int 3)] dX11_accuse_35 (by decide) rfl ?_
      refine ax_aload hC 0 dX11_accuse_37 rfl ?_
      refine ax_iload_n hC 3 dX11_accuse_39 rfl rfl ?_
      refine ax_aload_n hC 2 dX11_accuse_40 rfl rfl ?_
      refine ax_getf (v := .ref (o + 41)) hC hO iX11 rfl 10 (by decide) (by decide +kernel) rfl rfl dX11_accuse_41 ?_
      refine ax_getf (v := .int st) hC hRo iX9 rfl 5 (by decide) (by decide +kernel) rfl rfl dX11_accuse_44 ?_
      refine ax_iload hC 7 dX11_accuse_47 rfl ?_
      refine ax_iload_n hC 4 dX11_accuse_49 rfl rfl ?_
      refine ax_callVv (st := []) hC [.int hld, .int st, .int 3, .int (nI ee)] hB.1 rfl (c_X0_begin l D z B lo _ h (o + 41 + 3) pa st9 nu en9 ca cf hld st 3 (nI ee) ⟨hB.1, hB.2⟩) (cwV 4 hC.1.2.2.2.2 gX11_accuse_X0_begin rfl rfl rfl (by decide +kernel) ⟨Nat.le_of_ble_eq_true rfl, Nat.le_of_ble_eq_true rfl⟩) rfl rfl (Nat.le_of_ble_eq_true rfl) dX11_accuse_50 ⟨Nat.le_of_ble_eq_true rfl, Nat.le_of_ble_eq_true rfl⟩ (fun hi4 h5 hp6 => ?_)
      obtain ⟨ei7, fr8, hB9⟩ := hp6
      replace ei7 := ei7.symm
      subst ei7
      have x10 : h5 o = some (.inr (13, [.ref (o + 1), .ref (o + 2), .int on, .ref (o + 3), .ref (o + 15), .ref (o + 21), .ref (o + 23), .ref (o + 26), .ref (o + 32), .ref (o + 40), .ref (o + 41), .ref (o + 94), .int kp])) := (fr8 _ (by omega)).trans hO
      have x11 : h5 (o + 41) = some (.inr (11, [.ref (o + 41 + 1), .ref (o + 41 + 2), .ref (o + 41 + 3), .int (nI sn), .int rm, .int st, .int dn, .int wt, .int br, .int gv, .int ed])) := (fr8 _ (by omega)).trans hRo
      have x12 : h5 (o + 41 + 1) = some (.inl (z 3, 16, .inr (.inr (.inr (.inr (ef)))))) := (fr8 _ (by omega)).trans hef
      have x13 : h5 (o + 41 + 5 + 2 * ee) = some (.inr (4, [.int hld, .ref a, .int (nI n), .int en, .int es, .int (nI q9), .int mo, .ref (o + 41 + 5 + 2 * ee + 1)])) := (fr8 _ (by omega)).trans hE.1
      have x14 : h5 (o + 41 + 5 + 2 * ee + 1) = some (.inl (z 1, 4, .inl (lf))) := (fr8 _ (by omega)).trans hE.2
      have hp_15 : PrC z h5 a _ T := hP.kept (fun q _ _ => fr8 q (by omega))
      refine ax_iload hC 7 dX11_accuse_53 rfl ?_
      refine ax_tableIn (tgt := 110) (off := 55) hC dX11_accuse_55 (by decide) (by decide) (by decide) (by decide) ?_
      refine ax_aload hC 0 dX11_accuse_110 rfl ?_
      refine ax_aload hC 1 dX11_accuse_112 rfl ?_
      refine ax_callVp (st := [.ref (o + 41 + 3)]) hC [] x13 rfl (c_X2_kind l D z B lo _ h5 (o + 41 + 5 + 2 * ee) a n hld en es (nI q9) mo nd9 lf T ⟨x13, x14⟩ hp_15 hcap hn) (cwV 0 hC.1.2.2.2.2 gX11_accuse_X2_kind rfl rfl rfl (by decide +kernel) ⟨Nat.le_of_ble_eq_true rfl, Nat.le_of_ble_eq_true rfl⟩) rfl rfl (Nat.le_of_ble_eq_true rfl) dX11_accuse_114 ⟨Nat.le_of_ble_eq_true rfl, Nat.le_of_ble_eq_true rfl⟩ (fun r16 er17 => ?_)
      subst er17
      refine ax_eqi (y := 1) hkk ?_
      refine ax_callVv (st := []) hC [.int 1] hB9.1 rfl (c_X0_add_0 l D z B lo _ h5 (o + 41 + 3) hld st 3 (nI ee) cf 1 ⟨hB9.1, hB9.2⟩) (cwV 1 hC.1.2.2.2.2 gX11_accuse_X0_add rfl rfl rfl (by decide +kernel) ⟨Nat.le_of_ble_eq_true rfl, Nat.le_of_ble_eq_true rfl⟩) rfl rfl (Nat.le_of_ble_eq_true rfl) dX11_accuse_117 ⟨Nat.le_of_ble_eq_true rfl, Nat.le_of_ble_eq_true rfl⟩ (fun hi18 h19 hp20 => ?_)
      obtain ⟨ei21, fr22, hB23⟩ := hp20
      replace ei21 := ei21.symm
      subst ei21
      have x24 : h19 o = some (.inr (13, [.ref (o + 1), .ref (o + 2), .int on, .ref (o + 3), .ref (o + 15), .ref (o + 21), .ref (o + 23), .ref (o + 26), .ref (o + 32), .ref (o + 40), .ref (o + 41), .ref (o + 94), .int kp])) := (fr22 _ (by omega)).trans x10
      have x25 : h19 (o + 41) = some (.inr (11, [.ref (o + 41 + 1), .ref (o + 41 + 2), .ref (o + 41 + 3), .int (nI sn), .int rm, .int st, .int dn, .int wt, .int br, .int gv, .int ed])) := (fr22 _ (by omega)).trans x11
      have x26 : h19 (o + 41 + 1) = some (.inl (z 3, 16, .inr (.inr (.inr (.inr (ef)))))) := (fr22 _ (by omega)).trans x12
      have x27 : h19 (o + 41 + 5 + 2 * ee) = some (.inr (4, [.int hld, .ref a, .int (nI n), .int en, .int es, .int (nI q9), .int mo, .ref (o + 41 + 5 + 2 * ee + 1)])) := (fr22 _ (by omega)).trans x13
      have x28 : h19 (o + 41 + 5 + 2 * ee + 1) = some (.inl (z 1, 4, .inl (lf))) := (fr22 _ (by omega)).trans x14
      have hp_29 : PrC z h19 a _ T := hp_15.kept (fun q _ _ => fr22 q (by omega))
      refine ax_aload hC 0 dX11_accuse_120 rfl ?_
      refine ax_iload_n hC 5 dX11_accuse_122 rfl rfl ?_
      refine ax_callSp (st := [.ref (o + 41 + 3)]) hC [.int 1] (c_X11_kindFor l D z B lo _ h19 1 (by decide)) (va_cwS 1 hC.1.2.2.2.2 gX11_accuse_X11_kindFor rfl rfl rfl (by decide +kernel) ⟨Nat.le_of_ble_eq_true rfl, Nat.le_of_ble_eq_true rfl⟩) rfl rfl (Nat.le_of_ble_eq_true rfl) dX11_accuse_123 ⟨Nat.le_of_ble_eq_true rfl, Nat.le_of_ble_eq_true rfl⟩ (fun r30 er31 => ?_)
      subst er31
      refine ax_callVv (st := []) hC [.int 1] hB23.1 rfl (c_X0_add_1 l D z B lo _ h19 (o + 41 + 3) hld st 3 (nI ee) (upd cf 0 1) 1 ⟨hB23.1, hB23.2⟩) (cwV 1 hC.1.2.2.2.2 gX11_accuse_X0_add rfl rfl rfl (by decide +kernel) ⟨Nat.le_of_ble_eq_true rfl, Nat.le_of_ble_eq_true rfl⟩) rfl rfl (Nat.le_of_ble_eq_true rfl) dX11_accuse_126 ⟨Nat.le_of_ble_eq_true rfl, Nat.le_of_ble_eq_true rfl⟩ (fun hi32 h33 hp34 => ?_)
      obtain ⟨ei35, fr36, hB37⟩ := hp34
      replace ei35 := ei35.symm
      subst ei35
      have x38 : h33 o = some (.inr (13, [.ref (o + 1), .ref (o + 2), .int on, .ref (o + 3), .ref (o + 15), .ref (o + 21), .ref (o + 23), .ref (o + 26), .ref (o + 32), .ref (o + 40), .ref (o + 41), .ref (o + 94), .int kp])) := (fr36 _ (by omega)).trans x24
      have x39 : h33 (o + 41) = some (.inr (11, [.ref (o + 41 + 1), .ref (o + 41 + 2), .ref (o + 41 + 3), .int (nI sn), .int rm, .int st, .int dn, .int wt, .int br, .int gv, .int ed])) := (fr36 _ (by omega)).trans x25
      have x40 : h33 (o + 41 + 1) = some (.inl (z 3, 16, .inr (.inr (.inr (.inr (ef)))))) := (fr36 _ (by omega)).trans x26
      have x41 : h33 (o + 41 + 5 + 2 * ee) = some (.inr (4, [.int hld, .ref a, .int (nI n), .int en, .int es, .int (nI q9), .int mo, .ref (o + 41 + 5 + 2 * ee + 1)])) := (fr36 _ (by omega)).trans x27
      have x42 : h33 (o + 41 + 5 + 2 * ee + 1) = some (.inl (z 1, 4, .inl (lf))) := (fr36 _ (by omega)).trans x28
      have hp_43 : PrC z h33 a _ T := hp_29.kept (fun q _ _ => fr36 q (by omega))
      refine ax_goto (tgt := 173) hC dX11_accuse_129 (by decide) ?_
      refine ax_vret hC hr hlocks dX11_accuse_173 ?_
      exact ⟨rfl, fun q hq => ((fr36 q (by omega)).trans ((fr22 q (by omega)).trans (fr8 q (by omega)))), _, ⟨hB37.1, hB37.2⟩, rfl⟩
    · exact absurd (nI_lt (a := ee) (b := 16) (by omega) (by decide)) c2

set_option maxRecDepth 100000 in
set_option maxHeartbeats 4000000 in
theorem c_X11_accuse_2 (l : Launch) (D : va_G) (z : Nat → ClassId) (B : Heap) (lo hi : Nat) (h : Nat → Option va_E) (o : Nat) (on kp : Int32) (sn : Nat) (rm st dn wt br gv ed : Int32) (ee a n q9 : Nat) (hld en es mo nd9 : Int32) (lf : Nat → Int32) (T : PT) (pa st9 nu en9 ca : Int32) (cf : Nat → Int32) (vv : Int32) (hO : ObS h o on kp) (hRm : RmS z h (o + 41) (nI sn) rm st dn wt br gv ed) (hE : EndS z h (o + 41 + 5 + 2 * ee) hld (some a) (nI n) en es (nI q9) mo lf) (hP : PrC z h a nd9 T) (hcap : pcap T ≤ 60) (hn : n < pcap T) (hee : ee < 16) (hB : BlmS z h (o + 41 + 3) pa st9 nu en9 ca cf) (hkk : pK T n = 2) (hoa : o + 147 ≤ a) : Met l yX11_accuse wsX11_accuse rmX11_accuse (KP D vwCl B lo hi h (ty6 z) [.ref o, .int hld, .int (nI ee), .int 2, .int vv, .int 3]) (KQv D vwCl B lo (ty6 z) (fun hi' h' => hi' = hi ∧ (∀ q, (q < o + 41 + 3 ∨ o + 41 + 3 + 2 ≤ q) → h' q = h q) ∧ ∃ cf', BlmS z h' (o + 41 + 3) hld st 3 (nI ee) 2 cf' ∧ cf' 0 = cf' 1)) 0 0 (fun q => lo ≤ q) := by
  refine ax_met (by decide) rfl (Nat.le_of_ble_eq_true rfl) (L0 := [(0, .ref o), (1, .int hld), (2, .int (nI ee)), (3, .int 2), (4, .int vv), (5, .int 3)]) rfl ?_
  intro p e s m args below meth c hC hr hlocks hnm hargs
  have iX11 : ∀ w ∈ u_ws RX11 TX11 13, w ∈ wsX11_accuse := by decide +kernel
  have iX9 : ∀ w ∈ u_ws RX9 TX9 11, w ∈ wsX11_accuse := by decide +kernel
  obtain ⟨hRo, ef, hef, hefi⟩ := id hRm
  refine ax_iload_n hC 2 dX11_accuse_0 rfl rfl ?_
  refine ax_if_lt (tgt := 16) hC dX11_accuse_1 (by decide) (fun c1 => ?_) (fun c1 => ?_)
  · exact absurd c1 (nI_pos (by omega))
  · refine ax_iload_n hC 2 dX11_accuse_4 rfl rfl ?_
    refine ax_aload_n hC 0 dX11_accuse_5 rfl rfl ?_
    refine ax_getf (v := .ref (o + 41)) hC hO iX11 rfl 10 (by decide) (by decide +kernel) rfl rfl dX11_accuse_6 ?_
    refine ax_getf (v := .ref (o + 41 + 1)) hC hRo iX9 rfl 0 (by decide) (by decide +kernel) rfl rfl dX11_accuse_9 ?_
    refine ax_alen (v := 16) hC hef 3 rfl rfl dX11_accuse_12 ?_
    refine ax_icmp_lt (tgt := 17) hC dX11_accuse_13 (by decide) (fun c2 => ?_) (fun c2 => ?_)
    · refine ax_aload_n hC 0 dX11_accuse_17 rfl rfl ?_
      refine ax_getf (v := .ref (o + 41)) hC hO iX11 rfl 10 (by decide) (by decide +kernel) rfl rfl dX11_accuse_18 ?_
      refine ax_getf (v := .ref (o + 41 + 1)) hC hRo iX9 rfl 0 (by decide) (by decide +kernel) rfl rfl dX11_accuse_21 ?_
      refine ax_iload_n hC 2 dX11_accuse_24 rfl rfl ?_
      have b3 : vp_in (nI ee) 16 := vp_in_nI (by omega) (by omega)
      refine ax_aald hC hef 3 rfl b3 dX11_accuse_25 ?_
      refine ax_eqq (y := ef ee) (by rw [nI_clamp (by omega)] <;> rfl) ?_
      refine ax_eqq (y := some (o + 41 + 5 + 2 * ee)) (hefi ee (by omega)) ?_
      refine ax_astore hC [(6, .ref (o + 41 + 5 + 2 * ee)), (0, .ref o), (1, .int hld), (2, .int (nI ee)), (3, .int 2), (4, .int vv), (5, .int 3)] dX11_accuse_26 (by decide) rfl ?_
      refine ax_aload_n hC 1 dX11_accuse_28 rfl rfl ?_
      refine ax_getf (v := .ref (o + 41)) hC hO iX11 rfl 10 (by decide) (by decide +kernel) rfl rfl dX11_accuse_29 ?_
      refine ax_getf (v := .ref (o + 41 + 3)) hC hRo iX9 rfl 2 (by decide) (by decide +kernel) rfl rfl dX11_accuse_32 ?_
      refine ax_astore hC [(7, .ref (o + 41 + 3)), (6, .ref (o + 41 + 5 + 2 * ee)), (0, .ref o), (1, .int hld), (2, .int (nI ee)), (3, .int 2), (4, .int vv), (5, .int 3)] dX11_accuse_35 (by decide) rfl ?_
      refine ax_aload hC 0 dX11_accuse_37 rfl ?_
      refine ax_iload_n hC 3 dX11_accuse_39 rfl rfl ?_
      refine ax_aload_n hC 2 dX11_accuse_40 rfl rfl ?_
      refine ax_getf (v := .ref (o + 41)) hC hO iX11 rfl 10 (by decide) (by decide +kernel) rfl rfl dX11_accuse_41 ?_
      refine ax_getf (v := .int st) hC hRo iX9 rfl 5 (by decide) (by decide +kernel) rfl rfl dX11_accuse_44 ?_
      refine ax_iload hC 7 dX11_accuse_47 rfl ?_
      refine ax_iload_n hC 4 dX11_accuse_49 rfl rfl ?_
      refine ax_callVv (st := []) hC [.int hld, .int st, .int 3, .int (nI ee)] hB.1 rfl (c_X0_begin l D z B lo _ h (o + 41 + 3) pa st9 nu en9 ca cf hld st 3 (nI ee) ⟨hB.1, hB.2⟩) (cwV 4 hC.1.2.2.2.2 gX11_accuse_X0_begin rfl rfl rfl (by decide +kernel) ⟨Nat.le_of_ble_eq_true rfl, Nat.le_of_ble_eq_true rfl⟩) rfl rfl (Nat.le_of_ble_eq_true rfl) dX11_accuse_50 ⟨Nat.le_of_ble_eq_true rfl, Nat.le_of_ble_eq_true rfl⟩ (fun hi4 h5 hp6 => ?_)
      obtain ⟨ei7, fr8, hB9⟩ := hp6
      replace ei7 := ei7.symm
      subst ei7
      have x10 : h5 o = some (.inr (13, [.ref (o + 1), .ref (o + 2), .int on, .ref (o + 3), .ref (o + 15), .ref (o + 21), .ref (o + 23), .ref (o + 26), .ref (o + 32), .ref (o + 40), .ref (o + 41), .ref (o + 94), .int kp])) := (fr8 _ (by omega)).trans hO
      have x11 : h5 (o + 41) = some (.inr (11, [.ref (o + 41 + 1), .ref (o + 41 + 2), .ref (o + 41 + 3), .int (nI sn), .int rm, .int st, .int dn, .int wt, .int br, .int gv, .int ed])) := (fr8 _ (by omega)).trans hRo
      have x12 : h5 (o + 41 + 1) = some (.inl (z 3, 16, .inr (.inr (.inr (.inr (ef)))))) := (fr8 _ (by omega)).trans hef
      have x13 : h5 (o + 41 + 5 + 2 * ee) = some (.inr (4, [.int hld, .ref a, .int (nI n), .int en, .int es, .int (nI q9), .int mo, .ref (o + 41 + 5 + 2 * ee + 1)])) := (fr8 _ (by omega)).trans hE.1
      have x14 : h5 (o + 41 + 5 + 2 * ee + 1) = some (.inl (z 1, 4, .inl (lf))) := (fr8 _ (by omega)).trans hE.2
      have hp_15 : PrC z h5 a _ T := hP.kept (fun q _ _ => fr8 q (by omega))
      refine ax_iload hC 7 dX11_accuse_53 rfl ?_
      refine ax_tableIn (tgt := 110) (off := 55) hC dX11_accuse_55 (by decide) (by decide) (by decide) (by decide) ?_
      refine ax_aload hC 0 dX11_accuse_110 rfl ?_
      refine ax_aload hC 1 dX11_accuse_112 rfl ?_
      refine ax_callVp (st := [.ref (o + 41 + 3)]) hC [] x13 rfl (c_X2_kind l D z B lo _ h5 (o + 41 + 5 + 2 * ee) a n hld en es (nI q9) mo nd9 lf T ⟨x13, x14⟩ hp_15 hcap hn) (cwV 0 hC.1.2.2.2.2 gX11_accuse_X2_kind rfl rfl rfl (by decide +kernel) ⟨Nat.le_of_ble_eq_true rfl, Nat.le_of_ble_eq_true rfl⟩) rfl rfl (Nat.le_of_ble_eq_true rfl) dX11_accuse_114 ⟨Nat.le_of_ble_eq_true rfl, Nat.le_of_ble_eq_true rfl⟩ (fun r16 er17 => ?_)
      subst er17
      refine ax_eqi (y := 2) hkk ?_
      refine ax_callVv (st := []) hC [.int 2] hB9.1 rfl (c_X0_add_0 l D z B lo _ h5 (o + 41 + 3) hld st 3 (nI ee) cf 2 ⟨hB9.1, hB9.2⟩) (cwV 1 hC.1.2.2.2.2 gX11_accuse_X0_add rfl rfl rfl (by decide +kernel) ⟨Nat.le_of_ble_eq_true rfl, Nat.le_of_ble_eq_true rfl⟩) rfl rfl (Nat.le_of_ble_eq_true rfl) dX11_accuse_117 ⟨Nat.le_of_ble_eq_true rfl, Nat.le_of_ble_eq_true rfl⟩ (fun hi18 h19 hp20 => ?_)
      obtain ⟨ei21, fr22, hB23⟩ := hp20
      replace ei21 := ei21.symm
      subst ei21
      have x24 : h19 o = some (.inr (13, [.ref (o + 1), .ref (o + 2), .int on, .ref (o + 3), .ref (o + 15), .ref (o + 21), .ref (o + 23), .ref (o + 26), .ref (o + 32), .ref (o + 40), .ref (o + 41), .ref (o + 94), .int kp])) := (fr22 _ (by omega)).trans x10
      have x25 : h19 (o + 41) = some (.inr (11, [.ref (o + 41 + 1), .ref (o + 41 + 2), .ref (o + 41 + 3), .int (nI sn), .int rm, .int st, .int dn, .int wt, .int br, .int gv, .int ed])) := (fr22 _ (by omega)).trans x11
      have x26 : h19 (o + 41 + 1) = some (.inl (z 3, 16, .inr (.inr (.inr (.inr (ef)))))) := (fr22 _ (by omega)).trans x12
      have x27 : h19 (o + 41 + 5 + 2 * ee) = some (.inr (4, [.int hld, .ref a, .int (nI n), .int en, .int es, .int (nI q9), .int mo, .ref (o + 41 + 5 + 2 * ee + 1)])) := (fr22 _ (by omega)).trans x13
      have x28 : h19 (o + 41 + 5 + 2 * ee + 1) = some (.inl (z 1, 4, .inl (lf))) := (fr22 _ (by omega)).trans x14
      have hp_29 : PrC z h19 a _ T := hp_15.kept (fun q _ _ => fr22 q (by omega))
      refine ax_aload hC 0 dX11_accuse_120 rfl ?_
      refine ax_iload_n hC 5 dX11_accuse_122 rfl rfl ?_
      refine ax_callSp (st := [.ref (o + 41 + 3)]) hC [.int 2] (c_X11_kindFor l D z B lo _ h19 2 (by decide)) (va_cwS 1 hC.1.2.2.2.2 gX11_accuse_X11_kindFor rfl rfl rfl (by decide +kernel) ⟨Nat.le_of_ble_eq_true rfl, Nat.le_of_ble_eq_true rfl⟩) rfl rfl (Nat.le_of_ble_eq_true rfl) dX11_accuse_123 ⟨Nat.le_of_ble_eq_true rfl, Nat.le_of_ble_eq_true rfl⟩ (fun r30 er31 => ?_)
      subst er31
      refine ax_callVv (st := []) hC [.int 2] hB23.1 rfl (c_X0_add_1 l D z B lo _ h19 (o + 41 + 3) hld st 3 (nI ee) (upd cf 0 2) 2 ⟨hB23.1, hB23.2⟩) (cwV 1 hC.1.2.2.2.2 gX11_accuse_X0_add rfl rfl rfl (by decide +kernel) ⟨Nat.le_of_ble_eq_true rfl, Nat.le_of_ble_eq_true rfl⟩) rfl rfl (Nat.le_of_ble_eq_true rfl) dX11_accuse_126 ⟨Nat.le_of_ble_eq_true rfl, Nat.le_of_ble_eq_true rfl⟩ (fun hi32 h33 hp34 => ?_)
      obtain ⟨ei35, fr36, hB37⟩ := hp34
      replace ei35 := ei35.symm
      subst ei35
      have x38 : h33 o = some (.inr (13, [.ref (o + 1), .ref (o + 2), .int on, .ref (o + 3), .ref (o + 15), .ref (o + 21), .ref (o + 23), .ref (o + 26), .ref (o + 32), .ref (o + 40), .ref (o + 41), .ref (o + 94), .int kp])) := (fr36 _ (by omega)).trans x24
      have x39 : h33 (o + 41) = some (.inr (11, [.ref (o + 41 + 1), .ref (o + 41 + 2), .ref (o + 41 + 3), .int (nI sn), .int rm, .int st, .int dn, .int wt, .int br, .int gv, .int ed])) := (fr36 _ (by omega)).trans x25
      have x40 : h33 (o + 41 + 1) = some (.inl (z 3, 16, .inr (.inr (.inr (.inr (ef)))))) := (fr36 _ (by omega)).trans x26
      have x41 : h33 (o + 41 + 5 + 2 * ee) = some (.inr (4, [.int hld, .ref a, .int (nI n), .int en, .int es, .int (nI q9), .int mo, .ref (o + 41 + 5 + 2 * ee + 1)])) := (fr36 _ (by omega)).trans x27
      have x42 : h33 (o + 41 + 5 + 2 * ee + 1) = some (.inl (z 1, 4, .inl (lf))) := (fr36 _ (by omega)).trans x28
      have hp_43 : PrC z h33 a _ T := hp_29.kept (fun q _ _ => fr36 q (by omega))
      refine ax_goto (tgt := 173) hC dX11_accuse_129 (by decide) ?_
      refine ax_vret hC hr hlocks dX11_accuse_173 ?_
      exact ⟨rfl, fun q hq => ((fr36 q (by omega)).trans ((fr22 q (by omega)).trans (fr8 q (by omega)))), _, ⟨hB37.1, hB37.2⟩, rfl⟩
    · exact absurd (nI_lt (a := ee) (b := 16) (by omega) (by decide)) c2

abbrev rmX11_perform : Room := { frames := 2, cells := 0, slots := 0, locals := 61 }
set_option maxRecDepth 100000 in
set_option maxHeartbeats 4000000 in
theorem c_X11_perform_0 (l : Launch) (D : va_G) (z : Nat → ClassId) (B : Heap) (lo hi : Nat) (h : Nat → Option va_E) (o : Nat) (on kp : Int32) (sn : Nat) (rm st dn wt br gv ed : Int32) (ee a n q9 : Nat) (hld es mo nd9 : Int32) (lf : Nat → Int32) (T : PT) (ff a2 n2 q2 : Nat) (hld2 en2 es2 mo2 : Int32) (lf2 : Nat → Int32) (hO : ObS h o on kp) (hRm : RmS z h (o + 41) (nI sn) rm st dn wt br gv ed) (hE : EndS z h (o + 41 + 5 + 2 * ee) hld (some a) (nI n) 0 es (nI q9) mo lf) (hP : PrC z h a nd9 T) (hcap : pcap T ≤ 60) (hn : n < pcap T) (hee : ee < 16) (hG : EndS z h (o + 41 + 5 + 2 * ff) hld2 (some a2) (nI n2) en2 es2 (nI q2) mo2 lf2) (hff : ff < 16) (hne : ¬ ee = ff) (hx : nI ee ^^^ 1 = nI ff) (hq9 : q9 ≤ 4) (hq2 : q2 ≤ 4) (hw : wfP T) (hwD : wfD T) (hst : stK (pK T n)) (hkk : pK T n = 0) (hoa : o + 147 ≤ a) : Met l yX11_perform wsX11_perform rmX11_perform (KP D vwCl B lo hi h (ty6 z) [.ref o, .int hld, .int (nI ee), .int 0, .int 0]) (KQi D vwCl B lo (ty6 z) (fun r hi' h' => r = 1 ∧ hi' = hi ∧ (∀ q, ¬ q = o + 41 → (q < o + 41 + 5 + 2 * ee ∨ o + 41 + 5 + 2 * ee + 2 ≤ q) → (q < o + 41 + 5 + 2 * ff ∨ o + 41 + 5 + 2 * ff + 2 ≤ q) → h' q = h q) ∧ (∃ ed', RmS z h' (o + 41) (nI sn) rm st dn wt br gv ed') ∧ EndS z h' (o + 41 + 5 + 2 * ee) hld (some a) (nI n) 1 st (nI q9) mo lf ∧ EndS z h' (o + 41 + 5 + 2 * ff) hld2 (some a2) (nI n2) en2 es2 (nI q2) mo2 lf2)) 0 0 (fun q => lo ≤ q) := by
  refine ax_met (by decide) rfl (Nat.le_of_ble_eq_true rfl) (L0 := [(0, .ref o), (1, .int hld), (2, .int (nI ee)), (3, .int 0), (4, .int 0)]) rfl ?_
  intro p e s m args below meth c hC hr hlocks hnm hargs
  have iX11 : ∀ w ∈ u_ws RX11 TX11 13, w ∈ wsX11_perform := by decide +kernel
  have iX2 : ∀ w ∈ u_ws RX2 TX2 8, w ∈ wsX11_perform := by decide +kernel
  have iX9 : ∀ w ∈ u_ws RX9 TX9 11, w ∈ wsX11_perform := by decide +kernel
  obtain ⟨hRo, ef, hef, hefi⟩ := id hRm
  refine ax_iload_n hC 2 dX11_perform_0 rfl rfl ?_
  refine ax_iconst (v := 1) hC dX11_perform_1 (by decide) ?_
  refine ax_ixor hC dX11_perform_2 ?_
  refine ax_eqi (y := nI ff) (hx) ?_
  refine ax_istore hC [(5, .int (nI ff)), (0, .ref o), (1, .int hld), (2, .int (nI ee)), (3, .int 0), (4, .int 0)] dX11_perform_3 (by decide) rfl ?_
  refine ax_iload_n hC 3 dX11_perform_5 rfl rfl ?_
  refine ax_if_lt (tgt := 39) hC dX11_perform_6 (by decide) (fun c1 => ?_) (fun c1 => ?_)
  · exact absurd c1 (nI_pos (by omega))
  · refine ax_iload_n hC 3 dX11_perform_9 rfl rfl ?_
    refine ax_aload_n hC 1 dX11_perform_10 rfl rfl ?_
    refine ax_getf (v := .ref (o + 41)) hC hO iX11 rfl 10 (by decide) (by decide +kernel) rfl rfl dX11_perform_11 ?_
    refine ax_getf (v := .ref (o + 41 + 1)) hC hRo iX9 rfl 0 (by decide) (by decide +kernel) rfl rfl dX11_perform_14 ?_
    refine ax_alen (v := 16) hC hef 3 rfl rfl dX11_perform_17 ?_
    refine ax_icmp_ge (tgt := 39) hC dX11_perform_18 (by decide) (fun c2 => ?_) (fun c2 => ?_)
    · exact absurd c2 (nI_ge (a := ee) (b := 16) (by omega) (by decide))
    · refine ax_iload hC 0 dX11_perform_21 rfl ?_
      refine ax_if_lt (tgt := 39) hC dX11_perform_23 (by decide) (fun c3 => ?_) (fun c3 => ?_)
      · exact absurd c3 (nI_pos (by omega))
      · refine ax_iload hC 0 dX11_perform_26 rfl ?_
        refine ax_aload_n hC 1 dX11_perform_28 rfl rfl ?_
        refine ax_getf (v := .ref (o + 41)) hC hO iX11 rfl 10 (by decide) (by decide +kernel) rfl rfl dX11_perform_29 ?_
        refine ax_getf (v := .ref (o + 41 + 1)) hC hRo iX9 rfl 0 (by decide) (by decide +kernel) rfl rfl dX11_perform_32 ?_
        refine ax_alen (v := 16) hC hef 3 rfl rfl dX11_perform_35 ?_
        refine ax_icmp_lt (tgt := 41) hC dX11_perform_36 (by decide) (fun c4 => ?_) (fun c4 => ?_)
        · refine ax_aload_n hC 1 dX11_perform_41 rfl rfl ?_
          refine ax_getf (v := .ref (o + 41)) hC hO iX11 rfl 10 (by decide) (by decide +kernel) rfl rfl dX11_perform_42 ?_
          refine ax_getf (v := .ref (o + 41 + 1)) hC hRo iX9 rfl 0 (by decide) (by decide +kernel) rfl rfl dX11_perform_45 ?_
          refine ax_iload_n hC 3 dX11_perform_48 rfl rfl ?_
          have b5 : vp_in (nI ee) 16 := vp_in_nI (by omega) (by omega)
          refine ax_aald hC hef 3 rfl b5 dX11_perform_49 ?_
          refine ax_eqq (y := ef ee) (by rw [nI_clamp (by omega)] <;> rfl) ?_
          refine ax_eqq (y := some (o + 41 + 5 + 2 * ee)) (hefi ee (by omega)) ?_
          refine ax_astore hC [(6, .ref (o + 41 + 5 + 2 * ee)), (5, .int (nI ff)), (0, .ref o), (1, .int hld), (2, .int (nI ee)), (3, .int 0), (4, .int 0)] dX11_perform_50 (by decide) rfl ?_
          refine ax_aload hC 0 dX11_perform_52 rfl ?_
          refine ax_getf (v := .ref a) hC hE.1 iX2 rfl 1 (by decide) (by decide +kernel) rfl rfl dX11_perform_54 ?_
          refine ax_ifnonnull (tgt := 62) hC dX11_perform_57 (by decide) ?_
          refine ax_iload_n hC 5 dX11_perform_62 rfl rfl ?_
          refine ax_if_ne (tgt := 99) hC dX11_perform_63 (by decide) (fun c6 => ?_) (fun c6 => ?_)
          · exact absurd c6 (by decide)
          · refine ax_aload hC 0 dX11_perform_66 rfl ?_
            refine ax_iconst (v := 1) hC dX11_perform_68 (by decide) ?_
            refine ax_putf (v := .int 1) (ty := .boolean) hC tyX2 hE.1 iX2 tyX2_ok nmX2 rfl 3 (by decide) (by decide +kernel) rfl rfl (by decide +kernel) (rfl) rfl (Nat.le_of_ble_eq_true rfl) dX11_perform_69 (fun h7 e8 f9 => ?_)
            have e8 : h7 (o + 41 + 5 + 2 * ee) = some (.inr (4, [.int hld, .ref a, .int (nI n), .int 1, .int es, .int (nI q9), .int mo, .ref (o + 41 + 5 + 2 * ee + 1)])) := e8
            have x10 : h7 o = some (.inr (13, [.ref (o + 1), .ref (o + 2), .int on, .ref (o + 3), .ref (o + 15), .ref (o + 21), .ref (o + 23), .ref (o + 26), .ref (o + 32), .ref (o + 40), .ref (o + 41), .ref (o + 94), .int kp])) := (f9 _ (by omega)).trans hO
            have x11 : h7 (o + 41) = some (.inr (11, [.ref (o + 41 + 1), .ref (o + 41 + 2), .ref (o + 41 + 3), .int (nI sn), .int rm, .int st, .int dn, .int wt, .int br, .int gv, .int ed])) := (f9 _ (by omega)).trans hRo
            have x12 : h7 (o + 41 + 1) = some (.inl (z 3, 16, .inr (.inr (.inr (.inr (ef)))))) := (f9 _ (by omega)).trans hef
            have x13 : h7 (o + 41 + 5 + 2 * ee + 1) = some (.inl (z 1, 4, .inl (lf))) := (f9 _ (by omega)).trans hE.2
            have x14 : h7 (o + 41 + 5 + 2 * ff) = some (.inr (4, [.int hld2, .ref a2, .int (nI n2), .int en2, .int es2, .int (nI q2), .int mo2, .ref (o + 41 + 5 + 2 * ff + 1)])) := (f9 _ (by omega)).trans hG.1
            have x15 : h7 (o + 41 + 5 + 2 * ff + 1) = some (.inl (z 1, 4, .inl (lf2))) := (f9 _ (by omega)).trans hG.2
            have hp_16 : PrC z h7 a _ T := hP.kept (fun q _ _ => f9 q (by omega))
            refine ax_aload hC 0 dX11_perform_72 rfl ?_
            refine ax_aload_n hC 2 dX11_perform_74 rfl rfl ?_
            refine ax_getf (v := .ref (o + 41)) hC x10 iX11 rfl 10 (by decide) (by decide +kernel) rfl rfl dX11_perform_75 ?_
            refine ax_getf (v := .int st) hC x11 iX9 rfl 5 (by decide) (by decide +kernel) rfl rfl dX11_perform_78 ?_
            refine ax_putf (v := .int st) (ty := .int) hC tyX2 e8 iX2 tyX2_ok nmX2 rfl 4 (by decide) (by decide +kernel) rfl rfl (by decide +kernel) (rfl) rfl (Nat.le_of_ble_eq_true rfl) dX11_perform_81 (fun h17 e18 f19 => ?_)
            have e18 : h17 (o + 41 + 5 + 2 * ee) = some (.inr (4, [.int hld, .ref a, .int (nI n), .int 1, .int st, .int (nI q9), .int mo, .ref (o + 41 + 5 + 2 * ee + 1)])) := e18
            have x20 : h17 o = some (.inr (13, [.ref (o + 1), .ref (o + 2), .int on, .ref (o + 3), .ref (o + 15), .ref (o + 21), .ref (o + 23), .ref (o + 26), .ref (o + 32), .ref (o + 40), .ref (o + 41), .ref (o + 94), .int kp])) := (f19 _ (by omega)).trans x10
            have x21 : h17 (o + 41) = some (.inr (11, [.ref (o + 41 + 1), .ref (o + 41 + 2), .ref (o + 41 + 3), .int (nI sn), .int rm, .int st, .int dn, .int wt, .int br, .int gv, .int ed])) := (f19 _ (by omega)).trans x11
            have x22 : h17 (o + 41 + 1) = some (.inl (z 3, 16, .inr (.inr (.inr (.inr (ef)))))) := (f19 _ (by omega)).trans x12
            have x23 : h17 (o + 41 + 5 + 2 * ee + 1) = some (.inl (z 1, 4, .inl (lf))) := (f19 _ (by omega)).trans x13
            have x24 : h17 (o + 41 + 5 + 2 * ff) = some (.inr (4, [.int hld2, .ref a2, .int (nI n2), .int en2, .int es2, .int (nI q2), .int mo2, .ref (o + 41 + 5 + 2 * ff + 1)])) := (f19 _ (by omega)).trans x14
            have x25 : h17 (o + 41 + 5 + 2 * ff + 1) = some (.inl (z 1, 4, .inl (lf2))) := (f19 _ (by omega)).trans x15
            have hp_26 : PrC z h17 a _ T := hp_16.kept (fun q _ _ => f19 q (by omega))
            refine ax_aload_n hC 2 dX11_perform_84 rfl rfl ?_
            refine ax_getf (v := .ref (o + 41)) hC x20 iX11 rfl 10 (by decide) (by decide +kernel) rfl rfl dX11_perform_85 ?_
            refine ax_dup hC dX11_perform_88 rfl ?_
            refine ax_getf (v := .int ed) hC x21 iX9 rfl 10 (by decide) (by decide +kernel) rfl rfl dX11_perform_89 ?_
            refine ax_iconst (v := 1) hC dX11_perform_92 (by decide) ?_
            refine ax_iadd hC dX11_perform_93 ?_
            refine ax_putf (v := .int (ed + 1)) (ty := .int) hC tyX9 x21 iX9 tyX9_ok nmX9 rfl 10 (by decide) (by decide +kernel) rfl rfl (by decide +kernel) (rfl) rfl (Nat.le_of_ble_eq_true rfl) dX11_perform_94 (fun h27 e28 f29 => ?_)
            have e28 : h27 (o + 41) = some (.inr (11, [.ref (o + 41 + 1), .ref (o + 41 + 2), .ref (o + 41 + 3), .int (nI sn), .int rm, .int st, .int dn, .int wt, .int br, .int gv, .int (ed + 1)])) := e28
            have x30 : h27 o = some (.inr (13, [.ref (o + 1), .ref (o + 2), .int on, .ref (o + 3), .ref (o + 15), .ref (o + 21), .ref (o + 23), .ref (o + 26), .ref (o + 32), .ref (o + 40), .ref (o + 41), .ref (o + 94), .int kp])) := (f29 _ (by omega)).trans x20
            have x31 : h27 (o + 41 + 1) = some (.inl (z 3, 16, .inr (.inr (.inr (.inr (ef)))))) := (f29 _ (by omega)).trans x22
            have x32 : h27 (o + 41 + 5 + 2 * ee + 1) = some (.inl (z 1, 4, .inl (lf))) := (f29 _ (by omega)).trans x23
            have x33 : h27 (o + 41 + 5 + 2 * ff) = some (.inr (4, [.int hld2, .ref a2, .int (nI n2), .int en2, .int es2, .int (nI q2), .int mo2, .ref (o + 41 + 5 + 2 * ff + 1)])) := (f29 _ (by omega)).trans x24
            have x34 : h27 (o + 41 + 5 + 2 * ff + 1) = some (.inl (z 1, 4, .inl (lf2))) := (f29 _ (by omega)).trans x25
            have x35 : h27 (o + 41 + 5 + 2 * ee) = some (.inr (4, [.int hld, .ref a, .int (nI n), .int 1, .int st, .int (nI q9), .int mo, .ref (o + 41 + 5 + 2 * ee + 1)])) := (f29 _ (by omega)).trans e18
            have hp_36 : PrC z h27 a _ T := hp_26.kept (fun q _ _ => f29 q (by omega))
            refine ax_iconst (v := 1) hC dX11_perform_97 (by decide) ?_
            refine ax_iret hC hr hlocks dX11_perform_98 ?_
            exact ⟨rfl, rfl, fun q hq hq2 hq3 => ((f29 q (by omega)).trans ((f19 q (by omega)).trans (f9 q (by omega)))), ⟨_, ⟨e28, ef, x31, hefi⟩⟩, ⟨x35, x32⟩, ⟨x33, x34⟩⟩
        · exact absurd (nI_lt (a := ff) (b := 16) (by omega) (by decide)) c4

set_option maxRecDepth 100000 in
set_option maxHeartbeats 4000000 in
theorem c_X11_perform_1 (l : Launch) (D : va_G) (z : Nat → ClassId) (B : Heap) (lo hi : Nat) (h : Nat → Option va_E) (o : Nat) (on kp : Int32) (sn : Nat) (rm st dn wt br gv ed : Int32) (ee a n q9 : Nat) (hld es mo nd9 : Int32) (lf : Nat → Int32) (T : PT) (ff a2 n2 q2 : Nat) (hld2 en2 es2 mo2 : Int32) (lf2 : Nat → Int32) (x : Int32) (hO : ObS h o on kp) (hRm : RmS z h (o + 41) (nI sn) rm st dn wt br gv ed) (hE : EndS z h (o + 41 + 5 + 2 * ee) hld (some a) (nI n) 0 es (nI q9) mo lf) (hP : PrC z h a nd9 T) (hcap : pcap T ≤ 60) (hn : n < pcap T) (hee : ee < 16) (hG : EndS z h (o + 41 + 5 + 2 * ff) hld2 (some a2) (nI n2) en2 es2 (nI q2) mo2 lf2) (hff : ff < 16) (hne : ¬ ee = ff) (hx : nI ee ^^^ 1 = nI ff) (hq9 : q9 ≤ 4) (hq2 : q2 < 4) (hw : wfP T) (hwD : wfD T) (hst : stK (pK T n)) (hkk : pK T n = 1) (hoa : o + 147 ≤ a) : Met l yX11_perform wsX11_perform rmX11_perform (KP D vwCl B lo hi h (ty6 z) [.ref o, .int hld, .int (nI ee), .int 1, .int x]) (KQi D vwCl B lo (ty6 z) (fun r hi' h' => r = 1 ∧ hi' = hi ∧ (∀ q, ¬ q = o + 41 → (q < o + 41 + 5 + 2 * ee ∨ o + 41 + 5 + 2 * ee + 2 ≤ q) → (q < o + 41 + 5 + 2 * ff ∨ o + 41 + 5 + 2 * ff + 2 ≤ q) → h' q = h q) ∧ (∃ ed', RmS z h' (o + 41) (nI sn) rm st dn wt br gv ed') ∧ (∃ n', EndS z h' (o + 41 + 5 + 2 * ee) hld (some a) (nI n') 0 es (nI q9) mo lf ∧ n' < pcap T ∧ stK (pK T n')) ∧ ∃ mo', EndS z h' (o + 41 + 5 + 2 * ff) hld2 (some a2) (nI n2) en2 es2 (nI (q2 + 1)) mo' (upd lf2 q2 x))) 0 0 (fun q => lo ≤ q) := by
  refine ax_met (by decide) rfl (Nat.le_of_ble_eq_true rfl) (L0 := [(0, .ref o), (1, .int hld), (2, .int (nI ee)), (3, .int 1), (4, .int x)]) rfl ?_
  intro p e s m args below meth c hC hr hlocks hnm hargs
  have iX11 : ∀ w ∈ u_ws RX11 TX11 13, w ∈ wsX11_perform := by decide +kernel
  have iX2 : ∀ w ∈ u_ws RX2 TX2 8, w ∈ wsX11_perform := by decide +kernel
  have iX9 : ∀ w ∈ u_ws RX9 TX9 11, w ∈ wsX11_perform := by decide +kernel
  obtain ⟨hRo, ef, hef, hefi⟩ := id hRm
  refine ax_iload_n hC 2 dX11_perform_0 rfl rfl ?_
  refine ax_iconst (v := 1) hC dX11_perform_1 (by decide) ?_
  refine ax_ixor hC dX11_perform_2 ?_
  refine ax_eqi (y := nI ff) (hx) ?_
  refine ax_istore hC [(5, .int (nI ff)), (0, .ref o), (1, .int hld), (2, .int (nI ee)), (3, .int 1), (4, .int x)] dX11_perform_3 (by decide) rfl ?_
  refine ax_iload_n hC 3 dX11_perform_5 rfl rfl ?_
  refine ax_if_lt (tgt := 39) hC dX11_perform_6 (by decide) (fun c1 => ?_) (fun c1 => ?_)
  · exact absurd c1 (nI_pos (by omega))
  · refine ax_iload_n hC 3 dX11_perform_9 rfl rfl ?_
    refine ax_aload_n hC 1 dX11_perform_10 rfl rfl ?_
    refine ax_getf (v := .ref (o + 41)) hC hO iX11 rfl 10 (by decide) (by decide +kernel) rfl rfl dX11_perform_11 ?_
    refine ax_getf (v := .ref (o + 41 + 1)) hC hRo iX9 rfl 0 (by decide) (by decide +kernel) rfl rfl dX11_perform_14 ?_
    refine ax_alen (v := 16) hC hef 3 rfl rfl dX11_perform_17 ?_
    refine ax_icmp_ge (tgt := 39) hC dX11_perform_18 (by decide) (fun c2 => ?_) (fun c2 => ?_)
    · exact absurd c2 (nI_ge (a := ee) (b := 16) (by omega) (by decide))
    · refine ax_iload hC 0 dX11_perform_21 rfl ?_
      refine ax_if_lt (tgt := 39) hC dX11_perform_23 (by decide) (fun c3 => ?_) (fun c3 => ?_)
      · exact absurd c3 (nI_pos (by omega))
      · refine ax_iload hC 0 dX11_perform_26 rfl ?_
        refine ax_aload_n hC 1 dX11_perform_28 rfl rfl ?_
        refine ax_getf (v := .ref (o + 41)) hC hO iX11 rfl 10 (by decide) (by decide +kernel) rfl rfl dX11_perform_29 ?_
        refine ax_getf (v := .ref (o + 41 + 1)) hC hRo iX9 rfl 0 (by decide) (by decide +kernel) rfl rfl dX11_perform_32 ?_
        refine ax_alen (v := 16) hC hef 3 rfl rfl dX11_perform_35 ?_
        refine ax_icmp_lt (tgt := 41) hC dX11_perform_36 (by decide) (fun c4 => ?_) (fun c4 => ?_)
        · refine ax_aload_n hC 1 dX11_perform_41 rfl rfl ?_
          refine ax_getf (v := .ref (o + 41)) hC hO iX11 rfl 10 (by decide) (by decide +kernel) rfl rfl dX11_perform_42 ?_
          refine ax_getf (v := .ref (o + 41 + 1)) hC hRo iX9 rfl 0 (by decide) (by decide +kernel) rfl rfl dX11_perform_45 ?_
          refine ax_iload_n hC 3 dX11_perform_48 rfl rfl ?_
          have b5 : vp_in (nI ee) 16 := vp_in_nI (by omega) (by omega)
          refine ax_aald hC hef 3 rfl b5 dX11_perform_49 ?_
          refine ax_eqq (y := ef ee) (by rw [nI_clamp (by omega)] <;> rfl) ?_
          refine ax_eqq (y := some (o + 41 + 5 + 2 * ee)) (hefi ee (by omega)) ?_
          refine ax_astore hC [(6, .ref (o + 41 + 5 + 2 * ee)), (5, .int (nI ff)), (0, .ref o), (1, .int hld), (2, .int (nI ee)), (3, .int 1), (4, .int x)] dX11_perform_50 (by decide) rfl ?_
          refine ax_aload hC 0 dX11_perform_52 rfl ?_
          refine ax_getf (v := .ref a) hC hE.1 iX2 rfl 1 (by decide) (by decide +kernel) rfl rfl dX11_perform_54 ?_
          refine ax_ifnonnull (tgt := 62) hC dX11_perform_57 (by decide) ?_
          refine ax_iload_n hC 5 dX11_perform_62 rfl rfl ?_
          refine ax_if_ne (tgt := 99) hC dX11_perform_63 (by decide) (fun c6 => ?_) (fun c6 => ?_)
          · refine ax_aload hC 0 dX11_perform_99 rfl ?_
            refine ax_callVp (st := []) hC [] hE.1 rfl (c_X2_kind l D z B lo _ h (o + 41 + 5 + 2 * ee) a n hld 0 es (nI q9) mo nd9 lf T hE hP hcap hn) (cwV 0 hC.1.2.2.2.2 gX11_perform_X2_kind rfl rfl rfl (by decide +kernel) ⟨Nat.le_of_ble_eq_true rfl, Nat.le_of_ble_eq_true rfl⟩) rfl rfl (Nat.le_of_ble_eq_true rfl) dX11_perform_101 ⟨Nat.le_of_ble_eq_true rfl, Nat.le_of_ble_eq_true rfl⟩ (fun r7 er8 => ?_)
            subst er8
            refine ax_eqi (y := 1) hkk ?_
            refine ax_istore hC [(7, .int 1), (6, .ref (o + 41 + 5 + 2 * ee)), (5, .int (nI ff)), (0, .ref o), (1, .int hld), (2, .int (nI ee)), (3, .int 1), (4, .int x)] dX11_perform_104 (by decide) rfl ?_
            refine ax_iload hC 0 dX11_perform_106 rfl ?_
            refine ax_iconst (v := 1) hC dX11_perform_108 (by decide) ?_
            refine ax_icmp_eq (tgt := 118) hC dX11_perform_109 (by decide) (fun c9 => ?_) (fun c9 => ?_)
            · refine ax_iconst (v := 1) hC dX11_perform_118 (by decide) ?_
              refine ax_goto (tgt := 123) hC dX11_perform_119 (by decide) ?_
              refine ax_istore hC [(8, .int 1), (7, .int 1), (6, .ref (o + 41 + 5 + 2 * ee)), (5, .int (nI ff)), (0, .ref o), (1, .int hld), (2, .int (nI ee)), (3, .int 1), (4, .int x)] dX11_perform_123 (by decide) rfl ?_
              refine ax_iload hC 0 dX11_perform_125 rfl ?_
              refine ax_if_eq (tgt := 135) hC dX11_perform_127 (by decide) (fun c10 => ?_) (fun c10 => ?_)
              · exact absurd c10 (by decide)
              · refine ax_iload hC 8 dX11_perform_130 rfl ?_
                refine ax_goto (tgt := 140) hC dX11_perform_132 (by decide) ?_
                refine ax_istore hC [(9, .int x), (8, .int 1), (7, .int 1), (6, .ref (o + 41 + 5 + 2 * ee)), (5, .int (nI ff)), (0, .ref o), (1, .int hld), (2, .int (nI ee)), (3, .int 1), (4, .int x)] dX11_perform_140 (by decide) rfl ?_
                refine ax_iload hC 1 dX11_perform_142 rfl ?_
                refine ax_if_eq (tgt := 162) hC dX11_perform_144 (by decide) (fun c11 => ?_) (fun c11 => ?_)
                · exact absurd c11 (by decide)
                · refine ax_aload_n hC 5 dX11_perform_147 rfl rfl ?_
                  refine ax_getf (v := .ref (o + 41)) hC hO iX11 rfl 10 (by decide) (by decide +kernel) rfl rfl dX11_perform_148 ?_
                  refine ax_getf (v := .ref (o + 41 + 1)) hC hRo iX9 rfl 0 (by decide) (by decide +kernel) rfl rfl dX11_perform_151 ?_
                  refine ax_iload hC 4 dX11_perform_154 rfl ?_
                  have b12 : vp_in (nI ff) 16 := vp_in_nI (by omega) (by omega)
                  refine ax_aald hC hef 3 rfl b12 dX11_perform_156 ?_
                  refine ax_eqq (y := ef ff) (by rw [nI_clamp (by omega)] <;> rfl) ?_
                  refine ax_eqq (y := some (o + 41 + 5 + 2 * ff)) (hefi ff (by omega)) ?_
                  refine ax_iload hC 0 dX11_perform_157 rfl ?_
                  refine ax_callVv (st := []) hC [.int x] hG.1 rfl (c_X2_put l D z B lo _ h (o + 41 + 5 + 2 * ff) q2 hld2 (nI n2) en2 es2 mo2 (some a2) lf2 x ⟨hG.1, hG.2⟩ hq2) (cwV 1 hC.1.2.2.2.2 gX11_perform_X2_put rfl rfl rfl (by decide +kernel) ⟨Nat.le_of_ble_eq_true rfl, Nat.le_of_ble_eq_true rfl⟩) rfl rfl (Nat.le_of_ble_eq_true rfl) dX11_perform_159 ⟨Nat.le_of_ble_eq_true rfl, Nat.le_of_ble_eq_true rfl⟩ (fun hi13 h14 hp15 => ?_)
                  obtain ⟨ei16, fr17, mo18, hG19⟩ := hp15
                  replace ei16 := ei16.symm
                  subst ei16
                  have x20 : h14 o = some (.inr (13, [.ref (o + 1), .ref (o + 2), .int on, .ref (o + 3), .ref (o + 15), .ref (o + 21), .ref (o + 23), .ref (o + 26), .ref (o + 32), .ref (o + 40), .ref (o + 41), .ref (o + 94), .int kp])) := (fr17 _ (by omega)).trans hO
                  have x21 : h14 (o + 41) = some (.inr (11, [.ref (o + 41 + 1), .ref (o + 41 + 2), .ref (o + 41 + 3), .int (nI sn), .int rm, .int st, .int dn, .int wt, .int br, .int gv, .int ed])) := (fr17 _ (by omega)).trans hRo
                  have x22 : h14 (o + 41 + 1) = some (.inl (z 3, 16, .inr (.inr (.inr (.inr (ef)))))) := (fr17 _ (by omega)).trans hef
                  have x23 : h14 (o + 41 + 5 + 2 * ee) = some (.inr (4, [.int hld, .ref a, .int (nI n), .int 0, .int es, .int (nI q9), .int mo, .ref (o + 41 + 5 + 2 * ee + 1)])) := (fr17 _ (by omega)).trans hE.1
                  have x24 : h14 (o + 41 + 5 + 2 * ee + 1) = some (.inl (z 1, 4, .inl (lf))) := (fr17 _ (by omega)).trans hE.2
                  have hp_25 : PrC z h14 a _ T := hP.kept (fun q _ _ => fr17 q (by omega))
                  refine ax_iload_n hC 8 dX11_perform_162 rfl rfl ?_
                  refine ax_iconst (v := 5) hC dX11_perform_163 (by decide) ?_
                  refine ax_icmp_ne (tgt := 175) hC dX11_perform_164 (by decide) (fun c26 => ?_) (fun c26 => ?_)
                  · refine ax_iload_n hC 8 dX11_perform_175 rfl rfl ?_
                    refine ax_bipush (v := 6) hC dX11_perform_176 (by decide) ?_
                    refine ax_icmp_ne (tgt := 188) hC dX11_perform_178 (by decide) (fun c27 => ?_) (fun c27 => ?_)
                    · refine ax_aload hC 3 dX11_perform_188 rfl ?_
                      refine ax_aload hC 3 dX11_perform_190 rfl ?_
                      refine ax_getf (v := .ref a) hC x23 iX2 rfl 1 (by decide) (by decide +kernel) rfl rfl dX11_perform_192 ?_
                      refine ax_aload hC 3 dX11_perform_195 rfl ?_
                      refine ax_getf (v := .int (nI n)) hC x23 iX2 rfl 2 (by decide) (by decide +kernel) rfl rfl dX11_perform_197 ?_
                      refine ax_iload hC 0 dX11_perform_200 rfl ?_
                      refine ax_bipush (v := 97) hC dX11_perform_202 (by decide) ?_
                      refine ax_isub hC dX11_perform_204 ?_
                      refine ax_callVp (st := [.ref (o + 41 + 5 + 2 * ee)]) hC [.int (nI n), .int (x - 97)] hp_25.1 rfl (c_X7_behind l D z B lo _ h14 a _ T (nI n) (x - 97) hp_25 hcap (by rw [nI_toInt (by omega)]; omega)) (cwV 2 hC.1.2.2.2.2 gX11_perform_X7_behind rfl rfl rfl (by decide +kernel) ⟨Nat.le_of_ble_eq_true rfl, Nat.le_of_ble_eq_true rfl⟩) rfl rfl (Nat.le_of_ble_eq_true rfl) dX11_perform_205 ⟨Nat.le_of_ble_eq_true rfl, Nat.le_of_ble_eq_true rfl⟩ (fun r28 er29 => ?_)
                      subst er29
                      obtain ⟨n30, hn1_, hn2_, hn3_⟩ := behf_ok hw hwD hn hst (x - 97)
                      refine ax_eqi (y := nI n30) hn1_ ?_
                      refine ax_putf (v := .int (nI n30)) (ty := .int) hC tyX2 x23 iX2 tyX2_ok nmX2 rfl 2 (by decide) (by decide +kernel) rfl rfl (by decide +kernel) (rfl) rfl (Nat.le_of_ble_eq_true rfl) dX11_perform_208 (fun h31 e32 f33 => ?_)
                      have e32 : h31 (o + 41 + 5 + 2 * ee) = some (.inr (4, [.int hld, .ref a, .int (nI n30), .int 0, .int es, .int (nI q9), .int mo, .ref (o + 41 + 5 + 2 * ee + 1)])) := e32
                      have x34 : h31 o = some (.inr (13, [.ref (o + 1), .ref (o + 2), .int on, .ref (o + 3), .ref (o + 15), .ref (o + 21), .ref (o + 23), .ref (o + 26), .ref (o + 32), .ref (o + 40), .ref (o + 41), .ref (o + 94), .int kp])) := (f33 _ (by omega)).trans x20
                      have x35 : h31 (o + 41) = some (.inr (11, [.ref (o + 41 + 1), .ref (o + 41 + 2), .ref (o + 41 + 3), .int (nI sn), .int rm, .int st, .int dn, .int wt, .int br, .int gv, .int ed])) := (f33 _ (by omega)).trans x21
                      have x36 : h31 (o + 41 + 1) = some (.inl (z 3, 16, .inr (.inr (.inr (.inr (ef)))))) := (f33 _ (by omega)).trans x22
                      have x37 : h31 (o + 41 + 5 + 2 * ee + 1) = some (.inl (z 1, 4, .inl (lf))) := (f33 _ (by omega)).trans x24
                      have x38 : h31 (o + 41 + 5 + 2 * ff) = some (.inr (4, [.int hld2, .ref a2, .int (nI n2), .int en2, .int es2, .int (nI (q2 + 1)), .int mo18, .ref (o + 41 + 5 + 2 * ff + 1)])) := (f33 _ (by omega)).trans hG19.1
                      have x39 : h31 (o + 41 + 5 + 2 * ff + 1) = some (.inl (z 1, 4, .inl (upd lf2 q2 x))) := (f33 _ (by omega)).trans hG19.2
                      have hp_40 : PrC z h31 a _ T := hp_25.kept (fun q _ _ => f33 q (by omega))
                      refine ax_iload hC 1 dX11_perform_211 rfl ?_
                      refine ax_if_eq (tgt := 220) hC dX11_perform_213 (by decide) (fun c41 => ?_) (fun c41 => ?_)
                      · exact absurd c41 (by decide)
                      · refine ax_iconst (v := 1) hC dX11_perform_216 (by decide) ?_
                        refine ax_goto (tgt := 222) hC dX11_perform_217 (by decide) ?_
                        refine ax_iret hC hr hlocks dX11_perform_222 ?_
                        exact ⟨rfl, rfl, fun q hq hq2 hq3 => ((f33 q (by omega)).trans (fr17 q (by omega))), ⟨_, ⟨x35, ef, x36, hefi⟩⟩, ⟨n30, ⟨e32, x37⟩, hn2_, hn3_⟩, _, ⟨x38, x39⟩⟩
                    · exact absurd c27 (by decide)
                  · exact absurd c26 (by decide)
            · exact absurd c9 (by decide)
          · exact absurd c6 (by decide)
        · exact absurd (nI_lt (a := ff) (b := 16) (by omega) (by decide)) c4

set_option maxRecDepth 100000 in
set_option maxHeartbeats 4000000 in
theorem c_X11_perform_2 (l : Launch) (D : va_G) (z : Nat → ClassId) (B : Heap) (lo hi : Nat) (h : Nat → Option va_E) (o : Nat) (on kp : Int32) (sn : Nat) (rm st dn wt br gv ed : Int32) (ee a n q9 : Nat) (hld es mo nd9 : Int32) (lf : Nat → Int32) (T : PT) (ff a2 n2 q2 : Nat) (hld2 en2 es2 mo2 : Int32) (lf2 : Nat → Int32) (hO : ObS h o on kp) (hRm : RmS z h (o + 41) (nI sn) rm st dn wt br gv ed) (hE : EndS z h (o + 41 + 5 + 2 * ee) hld (some a) (nI n) 0 es (nI (q9 + 1)) mo lf) (hP : PrC z h a nd9 T) (hcap : pcap T ≤ 60) (hn : n < pcap T) (hee : ee < 16) (hG : EndS z h (o + 41 + 5 + 2 * ff) hld2 (some a2) (nI n2) en2 es2 (nI q2) mo2 lf2) (hff : ff < 16) (hne : ¬ ee = ff) (hx : nI ee ^^^ 1 = nI ff) (hq9 : q9 < 4) (hq2 : q2 ≤ 4) (hw : wfP T) (hwD : wfD T) (hst : stK (pK T n)) (hkk : pK T n = 2) (hoa : o + 147 ≤ a) : Met l yX11_perform wsX11_perform rmX11_perform (KP D vwCl B lo hi h (ty6 z) [.ref o, .int hld, .int (nI ee), .int 2, .int 0]) (KQi D vwCl B lo (ty6 z) (fun r hi' h' => r = lf 0 ∧ hi' = hi ∧ (∀ q, ¬ q = o + 41 → (q < o + 41 + 5 + 2 * ee ∨ o + 41 + 5 + 2 * ee + 2 ≤ q) → (q < o + 41 + 5 + 2 * ff ∨ o + 41 + 5 + 2 * ff + 2 ≤ q) → h' q = h q) ∧ (∃ ed', RmS z h' (o + 41) (nI sn) rm st dn wt br gv ed') ∧ (∃ n' lf', EndS z h' (o + 41 + 5 + 2 * ee) hld (some a) (nI n') 0 es (nI q9) mo lf' ∧ n' < pcap T ∧ stK (pK T n') ∧ ∀ j, j < 3 → lf' j = lf (j + 1)) ∧ EndS z h' (o + 41 + 5 + 2 * ff) hld2 (some a2) (nI n2) en2 es2 (nI q2) mo2 lf2)) 0 0 (fun q => lo ≤ q) := by
  refine ax_met (by decide) rfl (Nat.le_of_ble_eq_true rfl) (L0 := [(0, .ref o), (1, .int hld), (2, .int (nI ee)), (3, .int 2), (4, .int 0)]) rfl ?_
  intro p e s m args below meth c hC hr hlocks hnm hargs
  have iX11 : ∀ w ∈ u_ws RX11 TX11 13, w ∈ wsX11_perform := by decide +kernel
  have iX2 : ∀ w ∈ u_ws RX2 TX2 8, w ∈ wsX11_perform := by decide +kernel
  have iX9 : ∀ w ∈ u_ws RX9 TX9 11, w ∈ wsX11_perform := by decide +kernel
  obtain ⟨hRo, ef, hef, hefi⟩ := id hRm
  refine ax_iload_n hC 2 dX11_perform_0 rfl rfl ?_
  refine ax_iconst (v := 1) hC dX11_perform_1 (by decide) ?_
  refine ax_ixor hC dX11_perform_2 ?_
  refine ax_eqi (y := nI ff) (hx) ?_
  refine ax_istore hC [(5, .int (nI ff)), (0, .ref o), (1, .int hld), (2, .int (nI ee)), (3, .int 2), (4, .int 0)] dX11_perform_3 (by decide) rfl ?_
  refine ax_iload_n hC 3 dX11_perform_5 rfl rfl ?_
  refine ax_if_lt (tgt := 39) hC dX11_perform_6 (by decide) (fun c1 => ?_) (fun c1 => ?_)
  · exact absurd c1 (nI_pos (by omega))
  · refine ax_iload_n hC 3 dX11_perform_9 rfl rfl ?_
    refine ax_aload_n hC 1 dX11_perform_10 rfl rfl ?_
    refine ax_getf (v := .ref (o + 41)) hC hO iX11 rfl 10 (by decide) (by decide +kernel) rfl rfl dX11_perform_11 ?_
    refine ax_getf (v := .ref (o + 41 + 1)) hC hRo iX9 rfl 0 (by decide) (by decide +kernel) rfl rfl dX11_perform_14 ?_
    refine ax_alen (v := 16) hC hef 3 rfl rfl dX11_perform_17 ?_
    refine ax_icmp_ge (tgt := 39) hC dX11_perform_18 (by decide) (fun c2 => ?_) (fun c2 => ?_)
    · exact absurd c2 (nI_ge (a := ee) (b := 16) (by omega) (by decide))
    · refine ax_iload hC 0 dX11_perform_21 rfl ?_
      refine ax_if_lt (tgt := 39) hC dX11_perform_23 (by decide) (fun c3 => ?_) (fun c3 => ?_)
      · exact absurd c3 (nI_pos (by omega))
      · refine ax_iload hC 0 dX11_perform_26 rfl ?_
        refine ax_aload_n hC 1 dX11_perform_28 rfl rfl ?_
        refine ax_getf (v := .ref (o + 41)) hC hO iX11 rfl 10 (by decide) (by decide +kernel) rfl rfl dX11_perform_29 ?_
        refine ax_getf (v := .ref (o + 41 + 1)) hC hRo iX9 rfl 0 (by decide) (by decide +kernel) rfl rfl dX11_perform_32 ?_
        refine ax_alen (v := 16) hC hef 3 rfl rfl dX11_perform_35 ?_
        refine ax_icmp_lt (tgt := 41) hC dX11_perform_36 (by decide) (fun c4 => ?_) (fun c4 => ?_)
        · refine ax_aload_n hC 1 dX11_perform_41 rfl rfl ?_
          refine ax_getf (v := .ref (o + 41)) hC hO iX11 rfl 10 (by decide) (by decide +kernel) rfl rfl dX11_perform_42 ?_
          refine ax_getf (v := .ref (o + 41 + 1)) hC hRo iX9 rfl 0 (by decide) (by decide +kernel) rfl rfl dX11_perform_45 ?_
          refine ax_iload_n hC 3 dX11_perform_48 rfl rfl ?_
          have b5 : vp_in (nI ee) 16 := vp_in_nI (by omega) (by omega)
          refine ax_aald hC hef 3 rfl b5 dX11_perform_49 ?_
          refine ax_eqq (y := ef ee) (by rw [nI_clamp (by omega)] <;> rfl) ?_
          refine ax_eqq (y := some (o + 41 + 5 + 2 * ee)) (hefi ee (by omega)) ?_
          refine ax_astore hC [(6, .ref (o + 41 + 5 + 2 * ee)), (5, .int (nI ff)), (0, .ref o), (1, .int hld), (2, .int (nI ee)), (3, .int 2), (4, .int 0)] dX11_perform_50 (by decide) rfl ?_
          refine ax_aload hC 0 dX11_perform_52 rfl ?_
          refine ax_getf (v := .ref a) hC hE.1 iX2 rfl 1 (by decide) (by decide +kernel) rfl rfl dX11_perform_54 ?_
          refine ax_ifnonnull (tgt := 62) hC dX11_perform_57 (by decide) ?_
          refine ax_iload_n hC 5 dX11_perform_62 rfl rfl ?_
          refine ax_if_ne (tgt := 99) hC dX11_perform_63 (by decide) (fun c6 => ?_) (fun c6 => ?_)
          · refine ax_aload hC 0 dX11_perform_99 rfl ?_
            refine ax_callVp (st := []) hC [] hE.1 rfl (c_X2_kind l D z B lo _ h (o + 41 + 5 + 2 * ee) a n hld 0 es (nI (q9 + 1)) mo nd9 lf T hE hP hcap hn) (cwV 0 hC.1.2.2.2.2 gX11_perform_X2_kind rfl rfl rfl (by decide +kernel) ⟨Nat.le_of_ble_eq_true rfl, Nat.le_of_ble_eq_true rfl⟩) rfl rfl (Nat.le_of_ble_eq_true rfl) dX11_perform_101 ⟨Nat.le_of_ble_eq_true rfl, Nat.le_of_ble_eq_true rfl⟩ (fun r7 er8 => ?_)
            subst er8
            refine ax_eqi (y := 2) hkk ?_
            refine ax_istore hC [(7, .int 2), (6, .ref (o + 41 + 5 + 2 * ee)), (5, .int (nI ff)), (0, .ref o), (1, .int hld), (2, .int (nI ee)), (3, .int 2), (4, .int 0)] dX11_perform_104 (by decide) rfl ?_
            refine ax_iload hC 0 dX11_perform_106 rfl ?_
            refine ax_iconst (v := 1) hC dX11_perform_108 (by decide) ?_
            refine ax_icmp_eq (tgt := 118) hC dX11_perform_109 (by decide) (fun c9 => ?_) (fun c9 => ?_)
            · exact absurd c9 (by decide)
            · refine ax_iload hC 0 dX11_perform_112 rfl ?_
              refine ax_iconst (v := 3) hC dX11_perform_114 (by decide) ?_
              refine ax_icmp_ne (tgt := 122) hC dX11_perform_115 (by decide) (fun c10 => ?_) (fun c10 => ?_)
              · refine ax_iconst (v := 0) hC dX11_perform_122 (by decide) ?_
                refine ax_istore hC [(8, .int 0), (7, .int 2), (6, .ref (o + 41 + 5 + 2 * ee)), (5, .int (nI ff)), (0, .ref o), (1, .int hld), (2, .int (nI ee)), (3, .int 2), (4, .int 0)] dX11_perform_123 (by decide) rfl ?_
                refine ax_iload hC 0 dX11_perform_125 rfl ?_
                refine ax_if_eq (tgt := 135) hC dX11_perform_127 (by decide) (fun c11 => ?_) (fun c11 => ?_)
                · refine ax_aload hC 2 dX11_perform_135 rfl ?_
                  refine ax_callVi (st := []) hC [] hE.1 rfl (c_X2_draw l D z B lo _ h (o + 41 + 5 + 2 * ee) q9 hld (nI n) 0 es mo (some a) lf ⟨hE.1, hE.2⟩ hq9) (cwV 0 hC.1.2.2.2.2 gX11_perform_X2_draw rfl rfl rfl (by decide +kernel) ⟨Nat.le_of_ble_eq_true rfl, Nat.le_of_ble_eq_true rfl⟩) rfl rfl (Nat.le_of_ble_eq_true rfl) dX11_perform_137 ⟨Nat.le_of_ble_eq_true rfl, Nat.le_of_ble_eq_true rfl⟩ (fun r12 hi13 h14 hp15 => ?_)
                  obtain ⟨er16, ei17, fr18, lf19, hE20, hl21⟩ := hp15
                  replace ei17 := ei17.symm
                  subst ei17
                  subst er16
                  have x22 : h14 o = some (.inr (13, [.ref (o + 1), .ref (o + 2), .int on, .ref (o + 3), .ref (o + 15), .ref (o + 21), .ref (o + 23), .ref (o + 26), .ref (o + 32), .ref (o + 40), .ref (o + 41), .ref (o + 94), .int kp])) := (fr18 _ (by omega)).trans hO
                  have x23 : h14 (o + 41) = some (.inr (11, [.ref (o + 41 + 1), .ref (o + 41 + 2), .ref (o + 41 + 3), .int (nI sn), .int rm, .int st, .int dn, .int wt, .int br, .int gv, .int ed])) := (fr18 _ (by omega)).trans hRo
                  have x24 : h14 (o + 41 + 1) = some (.inl (z 3, 16, .inr (.inr (.inr (.inr (ef)))))) := (fr18 _ (by omega)).trans hef
                  have x25 : h14 (o + 41 + 5 + 2 * ff) = some (.inr (4, [.int hld2, .ref a2, .int (nI n2), .int en2, .int es2, .int (nI q2), .int mo2, .ref (o + 41 + 5 + 2 * ff + 1)])) := (fr18 _ (by omega)).trans hG.1
                  have x26 : h14 (o + 41 + 5 + 2 * ff + 1) = some (.inl (z 1, 4, .inl (lf2))) := (fr18 _ (by omega)).trans hG.2
                  have hp_27 : PrC z h14 a _ T := hP.kept (fun q _ _ => fr18 q (by omega))
                  refine ax_istore hC [(9, .int (lf 0)), (8, .int 0), (7, .int 2), (6, .ref (o + 41 + 5 + 2 * ee)), (5, .int (nI ff)), (0, .ref o), (1, .int hld), (2, .int (nI ee)), (3, .int 2), (4, .int 0)] dX11_perform_140 (by decide) rfl ?_
                  refine ax_iload hC 1 dX11_perform_142 rfl ?_
                  refine ax_if_eq (tgt := 162) hC dX11_perform_144 (by decide) (fun c28 => ?_) (fun c28 => ?_)
                  · refine ax_iload_n hC 8 dX11_perform_162 rfl rfl ?_
                    refine ax_iconst (v := 5) hC dX11_perform_163 (by decide) ?_
                    refine ax_icmp_ne (tgt := 175) hC dX11_perform_164 (by decide) (fun c29 => ?_) (fun c29 => ?_)
                    · refine ax_iload_n hC 8 dX11_perform_175 rfl rfl ?_
                      refine ax_bipush (v := 6) hC dX11_perform_176 (by decide) ?_
                      refine ax_icmp_ne (tgt := 188) hC dX11_perform_178 (by decide) (fun c30 => ?_) (fun c30 => ?_)
                      · refine ax_aload hC 3 dX11_perform_188 rfl ?_
                        refine ax_aload hC 3 dX11_perform_190 rfl ?_
                        refine ax_getf (v := .ref a) hC hE20.1 iX2 rfl 1 (by decide) (by decide +kernel) rfl rfl dX11_perform_192 ?_
                        refine ax_aload hC 3 dX11_perform_195 rfl ?_
                        refine ax_getf (v := .int (nI n)) hC hE20.1 iX2 rfl 2 (by decide) (by decide +kernel) rfl rfl dX11_perform_197 ?_
                        refine ax_iload hC 0 dX11_perform_200 rfl ?_
                        refine ax_bipush (v := 97) hC dX11_perform_202 (by decide) ?_
                        refine ax_isub hC dX11_perform_204 ?_
                        refine ax_callVp (st := [.ref (o + 41 + 5 + 2 * ee)]) hC [.int (nI n), .int ((lf 0) - 97)] hp_27.1 rfl (c_X7_behind l D z B lo _ h14 a _ T (nI n) ((lf 0) - 97) hp_27 hcap (by rw [nI_toInt (by omega)]; omega)) (cwV 2 hC.1.2.2.2.2 gX11_perform_X7_behind rfl rfl rfl (by decide +kernel) ⟨Nat.le_of_ble_eq_true rfl, Nat.le_of_ble_eq_true rfl⟩) rfl rfl (Nat.le_of_ble_eq_true rfl) dX11_perform_205 ⟨Nat.le_of_ble_eq_true rfl, Nat.le_of_ble_eq_true rfl⟩ (fun r31 er32 => ?_)
                        subst er32
                        obtain ⟨n33, hn1_, hn2_, hn3_⟩ := behf_ok hw hwD hn hst ((lf 0) - 97)
                        refine ax_eqi (y := nI n33) hn1_ ?_
                        refine ax_putf (v := .int (nI n33)) (ty := .int) hC tyX2 hE20.1 iX2 tyX2_ok nmX2 rfl 2 (by decide) (by decide +kernel) rfl rfl (by decide +kernel) (rfl) rfl (Nat.le_of_ble_eq_true rfl) dX11_perform_208 (fun h34 e35 f36 => ?_)
                        have e35 : h34 (o + 41 + 5 + 2 * ee) = some (.inr (4, [.int hld, .ref a, .int (nI n33), .int 0, .int es, .int (nI q9), .int mo, .ref (o + 41 + 5 + 2 * ee + 1)])) := e35
                        have x37 : h34 o = some (.inr (13, [.ref (o + 1), .ref (o + 2), .int on, .ref (o + 3), .ref (o + 15), .ref (o + 21), .ref (o + 23), .ref (o + 26), .ref (o + 32), .ref (o + 40), .ref (o + 41), .ref (o + 94), .int kp])) := (f36 _ (by omega)).trans x22
                        have x38 : h34 (o + 41) = some (.inr (11, [.ref (o + 41 + 1), .ref (o + 41 + 2), .ref (o + 41 + 3), .int (nI sn), .int rm, .int st, .int dn, .int wt, .int br, .int gv, .int ed])) := (f36 _ (by omega)).trans x23
                        have x39 : h34 (o + 41 + 1) = some (.inl (z 3, 16, .inr (.inr (.inr (.inr (ef)))))) := (f36 _ (by omega)).trans x24
                        have x40 : h34 (o + 41 + 5 + 2 * ff) = some (.inr (4, [.int hld2, .ref a2, .int (nI n2), .int en2, .int es2, .int (nI q2), .int mo2, .ref (o + 41 + 5 + 2 * ff + 1)])) := (f36 _ (by omega)).trans x25
                        have x41 : h34 (o + 41 + 5 + 2 * ff + 1) = some (.inl (z 1, 4, .inl (lf2))) := (f36 _ (by omega)).trans x26
                        have x42 : h34 (o + 41 + 5 + 2 * ee + 1) = some (.inl (z 1, 4, .inl (lf19))) := (f36 _ (by omega)).trans hE20.2
                        have hp_43 : PrC z h34 a _ T := hp_27.kept (fun q _ _ => f36 q (by omega))
                        refine ax_iload hC 1 dX11_perform_211 rfl ?_
                        refine ax_if_eq (tgt := 220) hC dX11_perform_213 (by decide) (fun c44 => ?_) (fun c44 => ?_)
                        · refine ax_iload hC 0 dX11_perform_220 rfl ?_
                          refine ax_iret hC hr hlocks dX11_perform_222 ?_
                          exact ⟨rfl, rfl, fun q hq hq2 hq3 => ((f36 q (by omega)).trans (fr18 q (by omega))), ⟨_, ⟨x38, ef, x39, hefi⟩⟩, ⟨n33, lf19, ⟨e35, x42⟩, hn2_, hn3_, hl21⟩, ⟨x40, x41⟩⟩
                        · exact absurd c44 (by decide)
                      · exact absurd c30 (by decide)
                    · exact absurd c29 (by decide)
                  · exact absurd c28 (by decide)
                · exact absurd c11 (by decide)
              · exact absurd c10 (by decide)
          · exact absurd c6 (by decide)
        · exact absurd (nI_lt (a := ff) (b := 16) (by omega) (by decide)) c4

set_option maxRecDepth 100000 in
set_option maxHeartbeats 4000000 in
theorem c_X11_perform_3 (l : Launch) (D : va_G) (z : Nat → ClassId) (B : Heap) (lo hi : Nat) (h : Nat → Option va_E) (o : Nat) (on kp : Int32) (sn : Nat) (rm st dn wt br gv ed : Int32) (ee a n q9 : Nat) (hld es mo nd9 : Int32) (lf : Nat → Int32) (T : PT) (ff a2 n2 q2 : Nat) (hld2 en2 es2 mo2 : Int32) (lf2 : Nat → Int32) (x : Int32) (hO : ObS h o on kp) (hRm : RmS z h (o + 41) (nI sn) rm st dn wt br gv ed) (hE : EndS z h (o + 41 + 5 + 2 * ee) hld (some a) (nI n) 0 es (nI q9) mo lf) (hP : PrC z h a nd9 T) (hcap : pcap T ≤ 60) (hn : n < pcap T) (hee : ee < 16) (hG : EndS z h (o + 41 + 5 + 2 * ff) hld2 (some a2) (nI n2) en2 es2 (nI q2) mo2 lf2) (hff : ff < 16) (hne : ¬ ee = ff) (hx : nI ee ^^^ 1 = nI ff) (hq9 : q9 ≤ 4) (hq2 : q2 < 4) (hw : wfP T) (hwD : wfD T) (hst : stK (pK T n)) (hkk : pK T n = 3) (hoa : o + 147 ≤ a) : Met l yX11_perform wsX11_perform rmX11_perform (KP D vwCl B lo hi h (ty6 z) [.ref o, .int hld, .int (nI ee), .int 3, .int x]) (KQi D vwCl B lo (ty6 z) (fun r hi' h' => r = 1 ∧ hi' = hi ∧ (∀ q, ¬ q = o + 41 → (q < o + 41 + 5 + 2 * ee ∨ o + 41 + 5 + 2 * ee + 2 ≤ q) → (q < o + 41 + 5 + 2 * ff ∨ o + 41 + 5 + 2 * ff + 2 ≤ q) → h' q = h q) ∧ (∃ ed', RmS z h' (o + 41) (nI sn) rm st dn wt br gv ed') ∧ (∃ n', EndS z h' (o + 41 + 5 + 2 * ee) hld (some a) (nI n') 0 es (nI q9) mo lf ∧ n' < pcap T ∧ stK (pK T n')) ∧ ∃ mo', EndS z h' (o + 41 + 5 + 2 * ff) hld2 (some a2) (nI n2) en2 es2 (nI (q2 + 1)) mo' (upd lf2 q2 x))) 0 0 (fun q => lo ≤ q) := by
  refine ax_met (by decide) rfl (Nat.le_of_ble_eq_true rfl) (L0 := [(0, .ref o), (1, .int hld), (2, .int (nI ee)), (3, .int 3), (4, .int x)]) rfl ?_
  intro p e s m args below meth c hC hr hlocks hnm hargs
  have iX11 : ∀ w ∈ u_ws RX11 TX11 13, w ∈ wsX11_perform := by decide +kernel
  have iX2 : ∀ w ∈ u_ws RX2 TX2 8, w ∈ wsX11_perform := by decide +kernel
  have iX9 : ∀ w ∈ u_ws RX9 TX9 11, w ∈ wsX11_perform := by decide +kernel
  obtain ⟨hRo, ef, hef, hefi⟩ := id hRm
  refine ax_iload_n hC 2 dX11_perform_0 rfl rfl ?_
  refine ax_iconst (v := 1) hC dX11_perform_1 (by decide) ?_
  refine ax_ixor hC dX11_perform_2 ?_
  refine ax_eqi (y := nI ff) (hx) ?_
  refine ax_istore hC [(5, .int (nI ff)), (0, .ref o), (1, .int hld), (2, .int (nI ee)), (3, .int 3), (4, .int x)] dX11_perform_3 (by decide) rfl ?_
  refine ax_iload_n hC 3 dX11_perform_5 rfl rfl ?_
  refine ax_if_lt (tgt := 39) hC dX11_perform_6 (by decide) (fun c1 => ?_) (fun c1 => ?_)
  · exact absurd c1 (nI_pos (by omega))
  · refine ax_iload_n hC 3 dX11_perform_9 rfl rfl ?_
    refine ax_aload_n hC 1 dX11_perform_10 rfl rfl ?_
    refine ax_getf (v := .ref (o + 41)) hC hO iX11 rfl 10 (by decide) (by decide +kernel) rfl rfl dX11_perform_11 ?_
    refine ax_getf (v := .ref (o + 41 + 1)) hC hRo iX9 rfl 0 (by decide) (by decide +kernel) rfl rfl dX11_perform_14 ?_
    refine ax_alen (v := 16) hC hef 3 rfl rfl dX11_perform_17 ?_
    refine ax_icmp_ge (tgt := 39) hC dX11_perform_18 (by decide) (fun c2 => ?_) (fun c2 => ?_)
    · exact absurd c2 (nI_ge (a := ee) (b := 16) (by omega) (by decide))
    · refine ax_iload hC 0 dX11_perform_21 rfl ?_
      refine ax_if_lt (tgt := 39) hC dX11_perform_23 (by decide) (fun c3 => ?_) (fun c3 => ?_)
      · exact absurd c3 (nI_pos (by omega))
      · refine ax_iload hC 0 dX11_perform_26 rfl ?_
        refine ax_aload_n hC 1 dX11_perform_28 rfl rfl ?_
        refine ax_getf (v := .ref (o + 41)) hC hO iX11 rfl 10 (by decide) (by decide +kernel) rfl rfl dX11_perform_29 ?_
        refine ax_getf (v := .ref (o + 41 + 1)) hC hRo iX9 rfl 0 (by decide) (by decide +kernel) rfl rfl dX11_perform_32 ?_
        refine ax_alen (v := 16) hC hef 3 rfl rfl dX11_perform_35 ?_
        refine ax_icmp_lt (tgt := 41) hC dX11_perform_36 (by decide) (fun c4 => ?_) (fun c4 => ?_)
        · refine ax_aload_n hC 1 dX11_perform_41 rfl rfl ?_
          refine ax_getf (v := .ref (o + 41)) hC hO iX11 rfl 10 (by decide) (by decide +kernel) rfl rfl dX11_perform_42 ?_
          refine ax_getf (v := .ref (o + 41 + 1)) hC hRo iX9 rfl 0 (by decide) (by decide +kernel) rfl rfl dX11_perform_45 ?_
          refine ax_iload_n hC 3 dX11_perform_48 rfl rfl ?_
          have b5 : vp_in (nI ee) 16 := vp_in_nI (by omega) (by omega)
          refine ax_aald hC hef 3 rfl b5 dX11_perform_49 ?_
          refine ax_eqq (y := ef ee) (by rw [nI_clamp (by omega)] <;> rfl) ?_
          refine ax_eqq (y := some (o + 41 + 5 + 2 * ee)) (hefi ee (by omega)) ?_
          refine ax_astore hC [(6, .ref (o + 41 + 5 + 2 * ee)), (5, .int (nI ff)), (0, .ref o), (1, .int hld), (2, .int (nI ee)), (3, .int 3), (4, .int x)] dX11_perform_50 (by decide) rfl ?_
          refine ax_aload hC 0 dX11_perform_52 rfl ?_
          refine ax_getf (v := .ref a) hC hE.1 iX2 rfl 1 (by decide) (by decide +kernel) rfl rfl dX11_perform_54 ?_
          refine ax_ifnonnull (tgt := 62) hC dX11_perform_57 (by decide) ?_
          refine ax_iload_n hC 5 dX11_perform_62 rfl rfl ?_
          refine ax_if_ne (tgt := 99) hC dX11_perform_63 (by decide) (fun c6 => ?_) (fun c6 => ?_)
          · refine ax_aload hC 0 dX11_perform_99 rfl ?_
            refine ax_callVp (st := []) hC [] hE.1 rfl (c_X2_kind l D z B lo _ h (o + 41 + 5 + 2 * ee) a n hld 0 es (nI q9) mo nd9 lf T hE hP hcap hn) (cwV 0 hC.1.2.2.2.2 gX11_perform_X2_kind rfl rfl rfl (by decide +kernel) ⟨Nat.le_of_ble_eq_true rfl, Nat.le_of_ble_eq_true rfl⟩) rfl rfl (Nat.le_of_ble_eq_true rfl) dX11_perform_101 ⟨Nat.le_of_ble_eq_true rfl, Nat.le_of_ble_eq_true rfl⟩ (fun r7 er8 => ?_)
            subst er8
            refine ax_eqi (y := 3) hkk ?_
            refine ax_istore hC [(7, .int 3), (6, .ref (o + 41 + 5 + 2 * ee)), (5, .int (nI ff)), (0, .ref o), (1, .int hld), (2, .int (nI ee)), (3, .int 3), (4, .int x)] dX11_perform_104 (by decide) rfl ?_
            refine ax_iload hC 0 dX11_perform_106 rfl ?_
            refine ax_iconst (v := 1) hC dX11_perform_108 (by decide) ?_
            refine ax_icmp_eq (tgt := 118) hC dX11_perform_109 (by decide) (fun c9 => ?_) (fun c9 => ?_)
            · exact absurd c9 (by decide)
            · refine ax_iload hC 0 dX11_perform_112 rfl ?_
              refine ax_iconst (v := 3) hC dX11_perform_114 (by decide) ?_
              refine ax_icmp_ne (tgt := 122) hC dX11_perform_115 (by decide) (fun c10 => ?_) (fun c10 => ?_)
              · exact absurd c10 (by decide)
              · refine ax_iconst (v := 1) hC dX11_perform_118 (by decide) ?_
                refine ax_goto (tgt := 123) hC dX11_perform_119 (by decide) ?_
                refine ax_istore hC [(8, .int 1), (7, .int 3), (6, .ref (o + 41 + 5 + 2 * ee)), (5, .int (nI ff)), (0, .ref o), (1, .int hld), (2, .int (nI ee)), (3, .int 3), (4, .int x)] dX11_perform_123 (by decide) rfl ?_
                refine ax_iload hC 0 dX11_perform_125 rfl ?_
                refine ax_if_eq (tgt := 135) hC dX11_perform_127 (by decide) (fun c11 => ?_) (fun c11 => ?_)
                · exact absurd c11 (by decide)
                · refine ax_iload hC 8 dX11_perform_130 rfl ?_
                  refine ax_goto (tgt := 140) hC dX11_perform_132 (by decide) ?_
                  refine ax_istore hC [(9, .int x), (8, .int 1), (7, .int 3), (6, .ref (o + 41 + 5 + 2 * ee)), (5, .int (nI ff)), (0, .ref o), (1, .int hld), (2, .int (nI ee)), (3, .int 3), (4, .int x)] dX11_perform_140 (by decide) rfl ?_
                  refine ax_iload hC 1 dX11_perform_142 rfl ?_
                  refine ax_if_eq (tgt := 162) hC dX11_perform_144 (by decide) (fun c12 => ?_) (fun c12 => ?_)
                  · exact absurd c12 (by decide)
                  · refine ax_aload_n hC 5 dX11_perform_147 rfl rfl ?_
                    refine ax_getf (v := .ref (o + 41)) hC hO iX11 rfl 10 (by decide) (by decide +kernel) rfl rfl dX11_perform_148 ?_
                    refine ax_getf (v := .ref (o + 41 + 1)) hC hRo iX9 rfl 0 (by decide) (by decide +kernel) rfl rfl dX11_perform_151 ?_
                    refine ax_iload hC 4 dX11_perform_154 rfl ?_
                    have b13 : vp_in (nI ff) 16 := vp_in_nI (by omega) (by omega)
                    refine ax_aald hC hef 3 rfl b13 dX11_perform_156 ?_
                    refine ax_eqq (y := ef ff) (by rw [nI_clamp (by omega)] <;> rfl) ?_
                    refine ax_eqq (y := some (o + 41 + 5 + 2 * ff)) (hefi ff (by omega)) ?_
                    refine ax_iload hC 0 dX11_perform_157 rfl ?_
                    refine ax_callVv (st := []) hC [.int x] hG.1 rfl (c_X2_put l D z B lo _ h (o + 41 + 5 + 2 * ff) q2 hld2 (nI n2) en2 es2 mo2 (some a2) lf2 x ⟨hG.1, hG.2⟩ hq2) (cwV 1 hC.1.2.2.2.2 gX11_perform_X2_put rfl rfl rfl (by decide +kernel) ⟨Nat.le_of_ble_eq_true rfl, Nat.le_of_ble_eq_true rfl⟩) rfl rfl (Nat.le_of_ble_eq_true rfl) dX11_perform_159 ⟨Nat.le_of_ble_eq_true rfl, Nat.le_of_ble_eq_true rfl⟩ (fun hi14 h15 hp16 => ?_)
                    obtain ⟨ei17, fr18, mo19, hG20⟩ := hp16
                    replace ei17 := ei17.symm
                    subst ei17
                    have x21 : h15 o = some (.inr (13, [.ref (o + 1), .ref (o + 2), .int on, .ref (o + 3), .ref (o + 15), .ref (o + 21), .ref (o + 23), .ref (o + 26), .ref (o + 32), .ref (o + 40), .ref (o + 41), .ref (o + 94), .int kp])) := (fr18 _ (by omega)).trans hO
                    have x22 : h15 (o + 41) = some (.inr (11, [.ref (o + 41 + 1), .ref (o + 41 + 2), .ref (o + 41 + 3), .int (nI sn), .int rm, .int st, .int dn, .int wt, .int br, .int gv, .int ed])) := (fr18 _ (by omega)).trans hRo
                    have x23 : h15 (o + 41 + 1) = some (.inl (z 3, 16, .inr (.inr (.inr (.inr (ef)))))) := (fr18 _ (by omega)).trans hef
                    have x24 : h15 (o + 41 + 5 + 2 * ee) = some (.inr (4, [.int hld, .ref a, .int (nI n), .int 0, .int es, .int (nI q9), .int mo, .ref (o + 41 + 5 + 2 * ee + 1)])) := (fr18 _ (by omega)).trans hE.1
                    have x25 : h15 (o + 41 + 5 + 2 * ee + 1) = some (.inl (z 1, 4, .inl (lf))) := (fr18 _ (by omega)).trans hE.2
                    have hp_26 : PrC z h15 a _ T := hP.kept (fun q _ _ => fr18 q (by omega))
                    refine ax_iload_n hC 8 dX11_perform_162 rfl rfl ?_
                    refine ax_iconst (v := 5) hC dX11_perform_163 (by decide) ?_
                    refine ax_icmp_ne (tgt := 175) hC dX11_perform_164 (by decide) (fun c27 => ?_) (fun c27 => ?_)
                    · refine ax_iload_n hC 8 dX11_perform_175 rfl rfl ?_
                      refine ax_bipush (v := 6) hC dX11_perform_176 (by decide) ?_
                      refine ax_icmp_ne (tgt := 188) hC dX11_perform_178 (by decide) (fun c28 => ?_) (fun c28 => ?_)
                      · refine ax_aload hC 3 dX11_perform_188 rfl ?_
                        refine ax_aload hC 3 dX11_perform_190 rfl ?_
                        refine ax_getf (v := .ref a) hC x24 iX2 rfl 1 (by decide) (by decide +kernel) rfl rfl dX11_perform_192 ?_
                        refine ax_aload hC 3 dX11_perform_195 rfl ?_
                        refine ax_getf (v := .int (nI n)) hC x24 iX2 rfl 2 (by decide) (by decide +kernel) rfl rfl dX11_perform_197 ?_
                        refine ax_iload hC 0 dX11_perform_200 rfl ?_
                        refine ax_bipush (v := 97) hC dX11_perform_202 (by decide) ?_
                        refine ax_isub hC dX11_perform_204 ?_
                        refine ax_callVp (st := [.ref (o + 41 + 5 + 2 * ee)]) hC [.int (nI n), .int (x - 97)] hp_26.1 rfl (c_X7_behind l D z B lo _ h15 a _ T (nI n) (x - 97) hp_26 hcap (by rw [nI_toInt (by omega)]; omega)) (cwV 2 hC.1.2.2.2.2 gX11_perform_X7_behind rfl rfl rfl (by decide +kernel) ⟨Nat.le_of_ble_eq_true rfl, Nat.le_of_ble_eq_true rfl⟩) rfl rfl (Nat.le_of_ble_eq_true rfl) dX11_perform_205 ⟨Nat.le_of_ble_eq_true rfl, Nat.le_of_ble_eq_true rfl⟩ (fun r29 er30 => ?_)
                        subst er30
                        obtain ⟨n31, hn1_, hn2_, hn3_⟩ := behf_ok hw hwD hn hst (x - 97)
                        refine ax_eqi (y := nI n31) hn1_ ?_
                        refine ax_putf (v := .int (nI n31)) (ty := .int) hC tyX2 x24 iX2 tyX2_ok nmX2 rfl 2 (by decide) (by decide +kernel) rfl rfl (by decide +kernel) (rfl) rfl (Nat.le_of_ble_eq_true rfl) dX11_perform_208 (fun h32 e33 f34 => ?_)
                        have e33 : h32 (o + 41 + 5 + 2 * ee) = some (.inr (4, [.int hld, .ref a, .int (nI n31), .int 0, .int es, .int (nI q9), .int mo, .ref (o + 41 + 5 + 2 * ee + 1)])) := e33
                        have x35 : h32 o = some (.inr (13, [.ref (o + 1), .ref (o + 2), .int on, .ref (o + 3), .ref (o + 15), .ref (o + 21), .ref (o + 23), .ref (o + 26), .ref (o + 32), .ref (o + 40), .ref (o + 41), .ref (o + 94), .int kp])) := (f34 _ (by omega)).trans x21
                        have x36 : h32 (o + 41) = some (.inr (11, [.ref (o + 41 + 1), .ref (o + 41 + 2), .ref (o + 41 + 3), .int (nI sn), .int rm, .int st, .int dn, .int wt, .int br, .int gv, .int ed])) := (f34 _ (by omega)).trans x22
                        have x37 : h32 (o + 41 + 1) = some (.inl (z 3, 16, .inr (.inr (.inr (.inr (ef)))))) := (f34 _ (by omega)).trans x23
                        have x38 : h32 (o + 41 + 5 + 2 * ee + 1) = some (.inl (z 1, 4, .inl (lf))) := (f34 _ (by omega)).trans x25
                        have x39 : h32 (o + 41 + 5 + 2 * ff) = some (.inr (4, [.int hld2, .ref a2, .int (nI n2), .int en2, .int es2, .int (nI (q2 + 1)), .int mo19, .ref (o + 41 + 5 + 2 * ff + 1)])) := (f34 _ (by omega)).trans hG20.1
                        have x40 : h32 (o + 41 + 5 + 2 * ff + 1) = some (.inl (z 1, 4, .inl (upd lf2 q2 x))) := (f34 _ (by omega)).trans hG20.2
                        have hp_41 : PrC z h32 a _ T := hp_26.kept (fun q _ _ => f34 q (by omega))
                        refine ax_iload hC 1 dX11_perform_211 rfl ?_
                        refine ax_if_eq (tgt := 220) hC dX11_perform_213 (by decide) (fun c42 => ?_) (fun c42 => ?_)
                        · exact absurd c42 (by decide)
                        · refine ax_iconst (v := 1) hC dX11_perform_216 (by decide) ?_
                          refine ax_goto (tgt := 222) hC dX11_perform_217 (by decide) ?_
                          refine ax_iret hC hr hlocks dX11_perform_222 ?_
                          exact ⟨rfl, rfl, fun q hq hq2 hq3 => ((f34 q (by omega)).trans (fr18 q (by omega))), ⟨_, ⟨x36, ef, x37, hefi⟩⟩, ⟨n31, ⟨e33, x38⟩, hn2_, hn3_⟩, _, ⟨x39, x40⟩⟩
                      · exact absurd c28 (by decide)
                    · exact absurd c27 (by decide)
          · exact absurd c6 (by decide)
        · exact absurd (nI_lt (a := ff) (b := 16) (by omega) (by decide)) c4

set_option maxRecDepth 100000 in
set_option maxHeartbeats 4000000 in
theorem c_X11_perform_4 (l : Launch) (D : va_G) (z : Nat → ClassId) (B : Heap) (lo hi : Nat) (h : Nat → Option va_E) (o : Nat) (on kp : Int32) (sn : Nat) (rm st dn wt br gv ed : Int32) (ee a n q9 : Nat) (hld es mo nd9 : Int32) (lf : Nat → Int32) (T : PT) (ff a2 n2 q2 : Nat) (hld2 en2 es2 mo2 : Int32) (lf2 : Nat → Int32) (hO : ObS h o on kp) (hRm : RmS z h (o + 41) (nI sn) rm st dn wt br gv ed) (hE : EndS z h (o + 41 + 5 + 2 * ee) hld (some a) (nI n) 0 es (nI (q9 + 1)) mo lf) (hP : PrC z h a nd9 T) (hcap : pcap T ≤ 60) (hn : n < pcap T) (hee : ee < 16) (hG : EndS z h (o + 41 + 5 + 2 * ff) hld2 (some a2) (nI n2) en2 es2 (nI q2) mo2 lf2) (hff : ff < 16) (hne : ¬ ee = ff) (hx : nI ee ^^^ 1 = nI ff) (hq9 : q9 < 4) (hq2 : q2 ≤ 4) (hw : wfP T) (hwD : wfD T) (hst : stK (pK T n)) (hkk : pK T n = 4) (hoa : o + 147 ≤ a) : Met l yX11_perform wsX11_perform rmX11_perform (KP D vwCl B lo hi h (ty6 z) [.ref o, .int hld, .int (nI ee), .int 4, .int 0]) (KQi D vwCl B lo (ty6 z) (fun r hi' h' => r = lf 0 ∧ hi' = hi ∧ (∀ q, ¬ q = o + 41 → (q < o + 41 + 5 + 2 * ee ∨ o + 41 + 5 + 2 * ee + 2 ≤ q) → (q < o + 41 + 5 + 2 * ff ∨ o + 41 + 5 + 2 * ff + 2 ≤ q) → h' q = h q) ∧ (∃ ed', RmS z h' (o + 41) (nI sn) rm st dn wt br gv ed') ∧ (∃ n' lf', EndS z h' (o + 41 + 5 + 2 * ee) hld (some a) (nI n') 0 es (nI q9) mo lf' ∧ n' < pcap T ∧ stK (pK T n') ∧ ∀ j, j < 3 → lf' j = lf (j + 1)) ∧ EndS z h' (o + 41 + 5 + 2 * ff) hld2 (some a2) (nI n2) en2 es2 (nI q2) mo2 lf2)) 0 0 (fun q => lo ≤ q) := by
  refine ax_met (by decide) rfl (Nat.le_of_ble_eq_true rfl) (L0 := [(0, .ref o), (1, .int hld), (2, .int (nI ee)), (3, .int 4), (4, .int 0)]) rfl ?_
  intro p e s m args below meth c hC hr hlocks hnm hargs
  have iX11 : ∀ w ∈ u_ws RX11 TX11 13, w ∈ wsX11_perform := by decide +kernel
  have iX2 : ∀ w ∈ u_ws RX2 TX2 8, w ∈ wsX11_perform := by decide +kernel
  have iX9 : ∀ w ∈ u_ws RX9 TX9 11, w ∈ wsX11_perform := by decide +kernel
  obtain ⟨hRo, ef, hef, hefi⟩ := id hRm
  refine ax_iload_n hC 2 dX11_perform_0 rfl rfl ?_
  refine ax_iconst (v := 1) hC dX11_perform_1 (by decide) ?_
  refine ax_ixor hC dX11_perform_2 ?_
  refine ax_eqi (y := nI ff) (hx) ?_
  refine ax_istore hC [(5, .int (nI ff)), (0, .ref o), (1, .int hld), (2, .int (nI ee)), (3, .int 4), (4, .int 0)] dX11_perform_3 (by decide) rfl ?_
  refine ax_iload_n hC 3 dX11_perform_5 rfl rfl ?_
  refine ax_if_lt (tgt := 39) hC dX11_perform_6 (by decide) (fun c1 => ?_) (fun c1 => ?_)
  · exact absurd c1 (nI_pos (by omega))
  · refine ax_iload_n hC 3 dX11_perform_9 rfl rfl ?_
    refine ax_aload_n hC 1 dX11_perform_10 rfl rfl ?_
    refine ax_getf (v := .ref (o + 41)) hC hO iX11 rfl 10 (by decide) (by decide +kernel) rfl rfl dX11_perform_11 ?_
    refine ax_getf (v := .ref (o + 41 + 1)) hC hRo iX9 rfl 0 (by decide) (by decide +kernel) rfl rfl dX11_perform_14 ?_
    refine ax_alen (v := 16) hC hef 3 rfl rfl dX11_perform_17 ?_
    refine ax_icmp_ge (tgt := 39) hC dX11_perform_18 (by decide) (fun c2 => ?_) (fun c2 => ?_)
    · exact absurd c2 (nI_ge (a := ee) (b := 16) (by omega) (by decide))
    · refine ax_iload hC 0 dX11_perform_21 rfl ?_
      refine ax_if_lt (tgt := 39) hC dX11_perform_23 (by decide) (fun c3 => ?_) (fun c3 => ?_)
      · exact absurd c3 (nI_pos (by omega))
      · refine ax_iload hC 0 dX11_perform_26 rfl ?_
        refine ax_aload_n hC 1 dX11_perform_28 rfl rfl ?_
        refine ax_getf (v := .ref (o + 41)) hC hO iX11 rfl 10 (by decide) (by decide +kernel) rfl rfl dX11_perform_29 ?_
        refine ax_getf (v := .ref (o + 41 + 1)) hC hRo iX9 rfl 0 (by decide) (by decide +kernel) rfl rfl dX11_perform_32 ?_
        refine ax_alen (v := 16) hC hef 3 rfl rfl dX11_perform_35 ?_
        refine ax_icmp_lt (tgt := 41) hC dX11_perform_36 (by decide) (fun c4 => ?_) (fun c4 => ?_)
        · refine ax_aload_n hC 1 dX11_perform_41 rfl rfl ?_
          refine ax_getf (v := .ref (o + 41)) hC hO iX11 rfl 10 (by decide) (by decide +kernel) rfl rfl dX11_perform_42 ?_
          refine ax_getf (v := .ref (o + 41 + 1)) hC hRo iX9 rfl 0 (by decide) (by decide +kernel) rfl rfl dX11_perform_45 ?_
          refine ax_iload_n hC 3 dX11_perform_48 rfl rfl ?_
          have b5 : vp_in (nI ee) 16 := vp_in_nI (by omega) (by omega)
          refine ax_aald hC hef 3 rfl b5 dX11_perform_49 ?_
          refine ax_eqq (y := ef ee) (by rw [nI_clamp (by omega)] <;> rfl) ?_
          refine ax_eqq (y := some (o + 41 + 5 + 2 * ee)) (hefi ee (by omega)) ?_
          refine ax_astore hC [(6, .ref (o + 41 + 5 + 2 * ee)), (5, .int (nI ff)), (0, .ref o), (1, .int hld), (2, .int (nI ee)), (3, .int 4), (4, .int 0)] dX11_perform_50 (by decide) rfl ?_
          refine ax_aload hC 0 dX11_perform_52 rfl ?_
          refine ax_getf (v := .ref a) hC hE.1 iX2 rfl 1 (by decide) (by decide +kernel) rfl rfl dX11_perform_54 ?_
          refine ax_ifnonnull (tgt := 62) hC dX11_perform_57 (by decide) ?_
          refine ax_iload_n hC 5 dX11_perform_62 rfl rfl ?_
          refine ax_if_ne (tgt := 99) hC dX11_perform_63 (by decide) (fun c6 => ?_) (fun c6 => ?_)
          · refine ax_aload hC 0 dX11_perform_99 rfl ?_
            refine ax_callVp (st := []) hC [] hE.1 rfl (c_X2_kind l D z B lo _ h (o + 41 + 5 + 2 * ee) a n hld 0 es (nI (q9 + 1)) mo nd9 lf T hE hP hcap hn) (cwV 0 hC.1.2.2.2.2 gX11_perform_X2_kind rfl rfl rfl (by decide +kernel) ⟨Nat.le_of_ble_eq_true rfl, Nat.le_of_ble_eq_true rfl⟩) rfl rfl (Nat.le_of_ble_eq_true rfl) dX11_perform_101 ⟨Nat.le_of_ble_eq_true rfl, Nat.le_of_ble_eq_true rfl⟩ (fun r7 er8 => ?_)
            subst er8
            refine ax_eqi (y := 4) hkk ?_
            refine ax_istore hC [(7, .int 4), (6, .ref (o + 41 + 5 + 2 * ee)), (5, .int (nI ff)), (0, .ref o), (1, .int hld), (2, .int (nI ee)), (3, .int 4), (4, .int 0)] dX11_perform_104 (by decide) rfl ?_
            refine ax_iload hC 0 dX11_perform_106 rfl ?_
            refine ax_iconst (v := 1) hC dX11_perform_108 (by decide) ?_
            refine ax_icmp_eq (tgt := 118) hC dX11_perform_109 (by decide) (fun c9 => ?_) (fun c9 => ?_)
            · exact absurd c9 (by decide)
            · refine ax_iload hC 0 dX11_perform_112 rfl ?_
              refine ax_iconst (v := 3) hC dX11_perform_114 (by decide) ?_
              refine ax_icmp_ne (tgt := 122) hC dX11_perform_115 (by decide) (fun c10 => ?_) (fun c10 => ?_)
              · refine ax_iconst (v := 0) hC dX11_perform_122 (by decide) ?_
                refine ax_istore hC [(8, .int 0), (7, .int 4), (6, .ref (o + 41 + 5 + 2 * ee)), (5, .int (nI ff)), (0, .ref o), (1, .int hld), (2, .int (nI ee)), (3, .int 4), (4, .int 0)] dX11_perform_123 (by decide) rfl ?_
                refine ax_iload hC 0 dX11_perform_125 rfl ?_
                refine ax_if_eq (tgt := 135) hC dX11_perform_127 (by decide) (fun c11 => ?_) (fun c11 => ?_)
                · refine ax_aload hC 2 dX11_perform_135 rfl ?_
                  refine ax_callVi (st := []) hC [] hE.1 rfl (c_X2_draw l D z B lo _ h (o + 41 + 5 + 2 * ee) q9 hld (nI n) 0 es mo (some a) lf ⟨hE.1, hE.2⟩ hq9) (cwV 0 hC.1.2.2.2.2 gX11_perform_X2_draw rfl rfl rfl (by decide +kernel) ⟨Nat.le_of_ble_eq_true rfl, Nat.le_of_ble_eq_true rfl⟩) rfl rfl (Nat.le_of_ble_eq_true rfl) dX11_perform_137 ⟨Nat.le_of_ble_eq_true rfl, Nat.le_of_ble_eq_true rfl⟩ (fun r12 hi13 h14 hp15 => ?_)
                  obtain ⟨er16, ei17, fr18, lf19, hE20, hl21⟩ := hp15
                  replace ei17 := ei17.symm
                  subst ei17
                  subst er16
                  have x22 : h14 o = some (.inr (13, [.ref (o + 1), .ref (o + 2), .int on, .ref (o + 3), .ref (o + 15), .ref (o + 21), .ref (o + 23), .ref (o + 26), .ref (o + 32), .ref (o + 40), .ref (o + 41), .ref (o + 94), .int kp])) := (fr18 _ (by omega)).trans hO
                  have x23 : h14 (o + 41) = some (.inr (11, [.ref (o + 41 + 1), .ref (o + 41 + 2), .ref (o + 41 + 3), .int (nI sn), .int rm, .int st, .int dn, .int wt, .int br, .int gv, .int ed])) := (fr18 _ (by omega)).trans hRo
                  have x24 : h14 (o + 41 + 1) = some (.inl (z 3, 16, .inr (.inr (.inr (.inr (ef)))))) := (fr18 _ (by omega)).trans hef
                  have x25 : h14 (o + 41 + 5 + 2 * ff) = some (.inr (4, [.int hld2, .ref a2, .int (nI n2), .int en2, .int es2, .int (nI q2), .int mo2, .ref (o + 41 + 5 + 2 * ff + 1)])) := (fr18 _ (by omega)).trans hG.1
                  have x26 : h14 (o + 41 + 5 + 2 * ff + 1) = some (.inl (z 1, 4, .inl (lf2))) := (fr18 _ (by omega)).trans hG.2
                  have hp_27 : PrC z h14 a _ T := hP.kept (fun q _ _ => fr18 q (by omega))
                  refine ax_istore hC [(9, .int (lf 0)), (8, .int 0), (7, .int 4), (6, .ref (o + 41 + 5 + 2 * ee)), (5, .int (nI ff)), (0, .ref o), (1, .int hld), (2, .int (nI ee)), (3, .int 4), (4, .int 0)] dX11_perform_140 (by decide) rfl ?_
                  refine ax_iload hC 1 dX11_perform_142 rfl ?_
                  refine ax_if_eq (tgt := 162) hC dX11_perform_144 (by decide) (fun c28 => ?_) (fun c28 => ?_)
                  · refine ax_iload_n hC 8 dX11_perform_162 rfl rfl ?_
                    refine ax_iconst (v := 5) hC dX11_perform_163 (by decide) ?_
                    refine ax_icmp_ne (tgt := 175) hC dX11_perform_164 (by decide) (fun c29 => ?_) (fun c29 => ?_)
                    · refine ax_iload_n hC 8 dX11_perform_175 rfl rfl ?_
                      refine ax_bipush (v := 6) hC dX11_perform_176 (by decide) ?_
                      refine ax_icmp_ne (tgt := 188) hC dX11_perform_178 (by decide) (fun c30 => ?_) (fun c30 => ?_)
                      · refine ax_aload hC 3 dX11_perform_188 rfl ?_
                        refine ax_aload hC 3 dX11_perform_190 rfl ?_
                        refine ax_getf (v := .ref a) hC hE20.1 iX2 rfl 1 (by decide) (by decide +kernel) rfl rfl dX11_perform_192 ?_
                        refine ax_aload hC 3 dX11_perform_195 rfl ?_
                        refine ax_getf (v := .int (nI n)) hC hE20.1 iX2 rfl 2 (by decide) (by decide +kernel) rfl rfl dX11_perform_197 ?_
                        refine ax_iload hC 0 dX11_perform_200 rfl ?_
                        refine ax_bipush (v := 97) hC dX11_perform_202 (by decide) ?_
                        refine ax_isub hC dX11_perform_204 ?_
                        refine ax_callVp (st := [.ref (o + 41 + 5 + 2 * ee)]) hC [.int (nI n), .int ((lf 0) - 97)] hp_27.1 rfl (c_X7_behind l D z B lo _ h14 a _ T (nI n) ((lf 0) - 97) hp_27 hcap (by rw [nI_toInt (by omega)]; omega)) (cwV 2 hC.1.2.2.2.2 gX11_perform_X7_behind rfl rfl rfl (by decide +kernel) ⟨Nat.le_of_ble_eq_true rfl, Nat.le_of_ble_eq_true rfl⟩) rfl rfl (Nat.le_of_ble_eq_true rfl) dX11_perform_205 ⟨Nat.le_of_ble_eq_true rfl, Nat.le_of_ble_eq_true rfl⟩ (fun r31 er32 => ?_)
                        subst er32
                        obtain ⟨n33, hn1_, hn2_, hn3_⟩ := behf_ok hw hwD hn hst ((lf 0) - 97)
                        refine ax_eqi (y := nI n33) hn1_ ?_
                        refine ax_putf (v := .int (nI n33)) (ty := .int) hC tyX2 hE20.1 iX2 tyX2_ok nmX2 rfl 2 (by decide) (by decide +kernel) rfl rfl (by decide +kernel) (rfl) rfl (Nat.le_of_ble_eq_true rfl) dX11_perform_208 (fun h34 e35 f36 => ?_)
                        have e35 : h34 (o + 41 + 5 + 2 * ee) = some (.inr (4, [.int hld, .ref a, .int (nI n33), .int 0, .int es, .int (nI q9), .int mo, .ref (o + 41 + 5 + 2 * ee + 1)])) := e35
                        have x37 : h34 o = some (.inr (13, [.ref (o + 1), .ref (o + 2), .int on, .ref (o + 3), .ref (o + 15), .ref (o + 21), .ref (o + 23), .ref (o + 26), .ref (o + 32), .ref (o + 40), .ref (o + 41), .ref (o + 94), .int kp])) := (f36 _ (by omega)).trans x22
                        have x38 : h34 (o + 41) = some (.inr (11, [.ref (o + 41 + 1), .ref (o + 41 + 2), .ref (o + 41 + 3), .int (nI sn), .int rm, .int st, .int dn, .int wt, .int br, .int gv, .int ed])) := (f36 _ (by omega)).trans x23
                        have x39 : h34 (o + 41 + 1) = some (.inl (z 3, 16, .inr (.inr (.inr (.inr (ef)))))) := (f36 _ (by omega)).trans x24
                        have x40 : h34 (o + 41 + 5 + 2 * ff) = some (.inr (4, [.int hld2, .ref a2, .int (nI n2), .int en2, .int es2, .int (nI q2), .int mo2, .ref (o + 41 + 5 + 2 * ff + 1)])) := (f36 _ (by omega)).trans x25
                        have x41 : h34 (o + 41 + 5 + 2 * ff + 1) = some (.inl (z 1, 4, .inl (lf2))) := (f36 _ (by omega)).trans x26
                        have x42 : h34 (o + 41 + 5 + 2 * ee + 1) = some (.inl (z 1, 4, .inl (lf19))) := (f36 _ (by omega)).trans hE20.2
                        have hp_43 : PrC z h34 a _ T := hp_27.kept (fun q _ _ => f36 q (by omega))
                        refine ax_iload hC 1 dX11_perform_211 rfl ?_
                        refine ax_if_eq (tgt := 220) hC dX11_perform_213 (by decide) (fun c44 => ?_) (fun c44 => ?_)
                        · refine ax_iload hC 0 dX11_perform_220 rfl ?_
                          refine ax_iret hC hr hlocks dX11_perform_222 ?_
                          exact ⟨rfl, rfl, fun q hq hq2 hq3 => ((f36 q (by omega)).trans (fr18 q (by omega))), ⟨_, ⟨x38, ef, x39, hefi⟩⟩, ⟨n33, lf19, ⟨e35, x42⟩, hn2_, hn3_, hl21⟩, ⟨x40, x41⟩⟩
                        · exact absurd c44 (by decide)
                      · exact absurd c30 (by decide)
                    · exact absurd c29 (by decide)
                  · exact absurd c28 (by decide)
                · exact absurd c11 (by decide)
              · exact absurd c10 (by decide)
          · exact absurd c6 (by decide)
        · exact absurd (nI_lt (a := ff) (b := 16) (by omega) (by decide)) c4
