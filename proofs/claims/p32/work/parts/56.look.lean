/-- an END in a talk -/
def EndI (z : Nat → ClassId) (h : Nat → Option va_E) (ea : Nat) (hld : Int32) (a : Nat) (T : PT) : Prop := ∃ (n : Nat) (en es : Int32) (q9 : Nat) (mo : Int32) (lf : Nat → Int32), EndS z h ea hld (some a) (nI n) en es (nI q9) mo lf ∧ n < pcap T ∧ stK (pK T n) ∧ q9 ≤ 4 ∧ (∀ j, j < q9 → 0 ≤ lf j) ∧ (en = 0 ∨ en = 1)
theorem EndI.kept {z : Nat → ClassId} {h h' : Nat → Option va_E} {ea : Nat} {hld : Int32} {a : Nat} {T : PT} (q : EndI z h ea hld a T) (hf : ∀ q, ea ≤ q → q < ea + 2 → h' q = h q) : EndI z h' ea hld a T := by
  obtain ⟨n, en, es, q9, mo, lf, x, y⟩ := q
  exact ⟨n, en, es, q9, mo, lf, x.kept hf, y⟩
theorem lab_of {T : PT} (hw : wfP T) {u j : Nat} (hu : u < pcap T) (hj : j < 26) (hb : ¬ (pLb T u >>> (nI j &&& 31)) &&& 1 = 0) : j < nlab T u := by
  obtain ⟨e1, e2⟩ := nlab_eq hw hu
  rw [e1, lab_bit _ e2 j hj] at hb
  by_cases h : j < nlab T u
  · exact h
  · rw [if_neg h] at hb; exact absurd rfl hb
theorem behf_ok {T : PT} (hw : wfP T) (hD : wfD T) {u : Nat} (hu : u < pcap T) (hk : stK (pK T u)) (lab : Int32) : ∃ n, behf T (nI u) lab = nI n ∧ n < pcap T ∧ stK (pK T n) := by
  have h60 := hw.1
  obtain ⟨d1, d2, -⟩ := hD u hu
  have e0 : rd (pcap T) (pK T) 0 (nI u) = pK T u := rd_nat hu (by omega)
  have e1 : rd (pcap T) (pLb T) 0 (nI u) = pLb T u := rd_nat hu (by omega)
  by_cases hk12 : pK T u = 1 ∨ pK T u = 2
  · refine ⟨stp T u 0, ?_, (stp_eq hw u 0).2, (d1 hk12).2⟩
    rw [behf, e0, if_pos hk12]; exact (stp_eq hw u 0).1
  · by_cases hc : lab < 0 ∨ (26 : Int32) ≤ lab ∨ (pLb T u >>> (lab &&& 31)) &&& 1 = 0
    · refine ⟨u, ?_, hu, hk⟩
      rw [behf, e0, e1, if_neg hk12, if_pos hc]
    · have c1 : ¬ lab < 0 := fun q => hc (Or.inl q)
      have c2 : ¬ (26 : Int32) ≤ lab := fun q => hc (Or.inr (Or.inl q))
      have c3 : ¬ (pLb T u >>> (lab &&& 31)) &&& 1 = 0 := fun q => hc (Or.inr (Or.inr q))
      obtain ⟨j, hj, rfl⟩ := nI_of c1
      have hj2 : j < 26 := by
        rw [L_leN (k := 26) (by decide) hj] at c2; omega
      have hjn := lab_of hw hu hj2 c3
      refine ⟨stp T u j, ?_, (stp_eq hw u j).2, (d2 j hjn).2⟩
      exact behf_lab hw hu hk12 hjn
theorem xor1 : ∀ j, j < 16 → nI j ^^^ 1 = nI (if j % 2 = 0 then j + 1 else j - 1) := by decide +kernel
theorem c_X2_maySay (l : Launch) (D : va_G) (z : Nat → ClassId) (B : Heap) (lo hi : Nat) (h : Nat → Option va_E) (ea a n : Nat) (hld en es ly mo nd9 : Int32) (lf : Nat → Int32) (T : PT) (x : Int32) (hx : x = 0 ∨ x = 1) (hE : EndS z h ea hld (some a) (nI n) en es ly mo lf) (hP : PrC z h a nd9 T) (hcap : pcap T ≤ 60) (hn : n < pcap T) : Met l yX2_maySay wsX2_maySay rmX2_maySay (KP D vwCl B lo hi h (ty6 z) [.ref ea, .int x]) (KQp D vwCl B lo hi h (ty6 z) (fun r => r = 1)) 0 0 (fun q => lo ≤ q) := by
  rcases hx with rfl | rfl
  · exact c_X2_maySay_0 l D z B lo hi h ea a n hld en es ly mo nd9 lf T hE hP hcap hn
  · exact c_X2_maySay_1 l D z B lo hi h ea a n hld en es ly mo nd9 lf T hE hP hcap hn
abbrev rmX11_kindFor : Room := { frames := 0, cells := 0, slots := 0, locals := 0 }
set_option maxRecDepth 100000 in
set_option maxHeartbeats 4000000 in
theorem c_X11_kindFor (l : Launch) (D : va_G) (z : Nat → ClassId) (B : Heap) (lo hi : Nat) (h : Nat → Option va_E) (x : Int32) (hx : x ≤ 4) : Met l yX11_kindFor wsX11_kindFor rmX11_kindFor (KP D vwCl B lo hi h (ty6 z) [.int x]) (KQp D vwCl B lo hi h (ty6 z) (fun r => r = x)) 0 0 (fun q => lo ≤ q) := by
  refine ax_met (by decide) rfl (Nat.le_of_ble_eq_true rfl) (L0 := [(0, .int x)]) rfl ?_
  intro p e s m args below meth c hC hr hlocks hnm hargs
  refine ax_iload_n hC 0 dX11_kindFor_0 rfl rfl ?_
  refine ax_iconst (v := 4) hC dX11_kindFor_1 (by decide) ?_
  refine ax_icmp_le (tgt := 11) hC dX11_kindFor_2 (by decide) (fun c1 => ?_) (fun c1 => ?_)
  · refine ax_iload_n hC 0 dX11_kindFor_11 rfl rfl ?_
    refine ax_iret hC hr hlocks dX11_kindFor_12 ?_
    exact ⟨rfl, rfl, rfl⟩
  · exact absurd hx c1

abbrev rmX11_look : Room := { frames := 2, cells := 0, slots := 0, locals := 41 }
set_option maxRecDepth 100000 in
set_option maxHeartbeats 4000000 in
theorem c_X11_look_0 (l : Launch) (D : va_G) (z : Nat → ClassId) (B : Heap) (lo hi : Nat) (h : Nat → Option va_E) (o : Nat) (on kp : Int32) (sn : Nat) (rm st dn wt br gv ed : Int32) (ee a n q9 : Nat) (hld en es mo nd9 : Int32) (lf : Nat → Int32) (T : PT) (hO : ObS h o on kp) (hRm : RmS z h (o + 41) (nI sn) rm st dn wt br gv ed) (hE : EndS z h (o + 41 + 5 + 2 * ee) hld (some a) (nI n) en es (nI q9) mo lf) (hP : PrC z h a nd9 T) (hcap : pcap T ≤ 60) (hn : n < pcap T) (hee : ee < 16) (hsn : sn ≤ 8) (hes : ee < 2 * sn) (hen : en = 0 ∨ en = 1) : Met l yX11_look wsX11_look rmX11_look (KP D vwCl B lo hi h (ty6 z) [.ref o, .int (nI ee), .int 0]) (KQp D vwCl B lo hi h (ty6 z) (fun r => r = hld)) 0 0 (fun q => lo ≤ q) := by
  refine ax_met (by decide) rfl (Nat.le_of_ble_eq_true rfl) (L0 := [(0, .ref o), (1, .int (nI ee)), (2, .int 0)]) rfl ?_
  intro p e s m args below meth c hC hr hlocks hnm hargs
  have iX11 : ∀ w ∈ u_ws RX11 TX11 13, w ∈ wsX11_look := by decide +kernel
  have iX2 : ∀ w ∈ u_ws RX2 TX2 8, w ∈ wsX11_look := by decide +kernel
  have iX9 : ∀ w ∈ u_ws RX9 TX9 11, w ∈ wsX11_look := by decide +kernel
  obtain ⟨hRo, ef, hef, hefi⟩ := id hRm
  refine ax_aload_n hC 0 dX11_look_0 rfl rfl ?_
  refine ax_iload_n hC 1 dX11_look_1 rfl rfl ?_
  refine ax_callVp (st := []) hC [.int (nI ee)] hO rfl (c_X11_isEnd l D z B lo _ h o on kp ee sn rm st dn wt br gv ed hO hRm hsn hes) (cwV 1 hC.1.2.2.2.2 gX11_look_X11_isEnd rfl rfl rfl (by decide +kernel) ⟨Nat.le_of_ble_eq_true rfl, Nat.le_of_ble_eq_true rfl⟩) rfl rfl (Nat.le_of_ble_eq_true rfl) dX11_look_2 ⟨Nat.le_of_ble_eq_true rfl, Nat.le_of_ble_eq_true rfl⟩ (fun r1 er2 => ?_)
  subst er2
  refine ax_if_eq (tgt := 20) hC dX11_look_5 (by decide) (fun c3 => ?_) (fun c3 => ?_)
  · exact absurd c3 (by decide)
  · refine ax_iload_n hC 1 dX11_look_8 rfl rfl ?_
    refine ax_aload_n hC 0 dX11_look_9 rfl rfl ?_
    refine ax_getf (v := .ref (o + 41)) hC hO iX11 rfl 10 (by decide) (by decide +kernel) rfl rfl dX11_look_10 ?_
    refine ax_getf (v := .ref (o + 41 + 1)) hC hRo iX9 rfl 0 (by decide) (by decide +kernel) rfl rfl dX11_look_13 ?_
    refine ax_alen (v := 16) hC hef 3 rfl rfl dX11_look_16 ?_
    refine ax_icmp_lt (tgt := 22) hC dX11_look_17 (by decide) (fun c4 => ?_) (fun c4 => ?_)
    · refine ax_aload_n hC 0 dX11_look_22 rfl rfl ?_
      refine ax_getf (v := .ref (o + 41)) hC hO iX11 rfl 10 (by decide) (by decide +kernel) rfl rfl dX11_look_23 ?_
      refine ax_getf (v := .ref (o + 41 + 1)) hC hRo iX9 rfl 0 (by decide) (by decide +kernel) rfl rfl dX11_look_26 ?_
      refine ax_iload_n hC 1 dX11_look_29 rfl rfl ?_
      have b5 : vp_in (nI ee) 16 := vp_in_nI (by omega) (by omega)
      refine ax_aald hC hef 3 rfl b5 dX11_look_30 ?_
      refine ax_eqq (y := ef ee) (by rw [nI_clamp (by omega)] <;> rfl) ?_
      refine ax_eqq (y := some (o + 41 + 5 + 2 * ee)) (hefi ee (by omega)) ?_
      refine ax_astore_n hC [(3, .ref (o + 41 + 5 + 2 * ee)), (0, .ref o), (1, .int (nI ee)), (2, .int 0)] dX11_look_31 rfl (by decide) rfl ?_
      refine ax_iload_n hC 3 dX11_look_32 rfl rfl ?_
      refine ax_tableIn (tgt := 72) (off := 39) hC dX11_look_33 (by decide) (by decide) (by decide) (by decide) ?_
      refine ax_aload_n hC 0 dX11_look_72 rfl rfl ?_
      refine ax_getf (v := .int hld) hC hE.1 iX2 rfl 0 (by decide) (by decide +kernel) rfl rfl dX11_look_73 ?_
      refine ax_iret hC hr hlocks dX11_look_76 ?_
      exact ⟨rfl, rfl, rfl⟩
    · exact absurd (nI_lt (a := ee) (b := 16) (by omega) (by decide)) c4

set_option maxRecDepth 100000 in
set_option maxHeartbeats 4000000 in
theorem c_X11_look_1 (l : Launch) (D : va_G) (z : Nat → ClassId) (B : Heap) (lo hi : Nat) (h : Nat → Option va_E) (o : Nat) (on kp : Int32) (sn : Nat) (rm st dn wt br gv ed : Int32) (ee a n q9 : Nat) (hld en es mo nd9 : Int32) (lf : Nat → Int32) (T : PT) (hO : ObS h o on kp) (hRm : RmS z h (o + 41) (nI sn) rm st dn wt br gv ed) (hE : EndS z h (o + 41 + 5 + 2 * ee) hld (some a) (nI n) en es (nI q9) mo lf) (hP : PrC z h a nd9 T) (hcap : pcap T ≤ 60) (hn : n < pcap T) (hee : ee < 16) (hsn : sn ≤ 8) (hes : ee < 2 * sn) (hen : en = 0 ∨ en = 1) : Met l yX11_look wsX11_look rmX11_look (KP D vwCl B lo hi h (ty6 z) [.ref o, .int (nI ee), .int 1]) (KQp D vwCl B lo hi h (ty6 z) (fun r => r = pK T n)) 0 0 (fun q => lo ≤ q) := by
  refine ax_met (by decide) rfl (Nat.le_of_ble_eq_true rfl) (L0 := [(0, .ref o), (1, .int (nI ee)), (2, .int 1)]) rfl ?_
  intro p e s m args below meth c hC hr hlocks hnm hargs
  have iX11 : ∀ w ∈ u_ws RX11 TX11 13, w ∈ wsX11_look := by decide +kernel
  have iX9 : ∀ w ∈ u_ws RX9 TX9 11, w ∈ wsX11_look := by decide +kernel
  obtain ⟨hRo, ef, hef, hefi⟩ := id hRm
  refine ax_aload_n hC 0 dX11_look_0 rfl rfl ?_
  refine ax_iload_n hC 1 dX11_look_1 rfl rfl ?_
  refine ax_callVp (st := []) hC [.int (nI ee)] hO rfl (c_X11_isEnd l D z B lo _ h o on kp ee sn rm st dn wt br gv ed hO hRm hsn hes) (cwV 1 hC.1.2.2.2.2 gX11_look_X11_isEnd rfl rfl rfl (by decide +kernel) ⟨Nat.le_of_ble_eq_true rfl, Nat.le_of_ble_eq_true rfl⟩) rfl rfl (Nat.le_of_ble_eq_true rfl) dX11_look_2 ⟨Nat.le_of_ble_eq_true rfl, Nat.le_of_ble_eq_true rfl⟩ (fun r1 er2 => ?_)
  subst er2
  refine ax_if_eq (tgt := 20) hC dX11_look_5 (by decide) (fun c3 => ?_) (fun c3 => ?_)
  · exact absurd c3 (by decide)
  · refine ax_iload_n hC 1 dX11_look_8 rfl rfl ?_
    refine ax_aload_n hC 0 dX11_look_9 rfl rfl ?_
    refine ax_getf (v := .ref (o + 41)) hC hO iX11 rfl 10 (by decide) (by decide +kernel) rfl rfl dX11_look_10 ?_
    refine ax_getf (v := .ref (o + 41 + 1)) hC hRo iX9 rfl 0 (by decide) (by decide +kernel) rfl rfl dX11_look_13 ?_
    refine ax_alen (v := 16) hC hef 3 rfl rfl dX11_look_16 ?_
    refine ax_icmp_lt (tgt := 22) hC dX11_look_17 (by decide) (fun c4 => ?_) (fun c4 => ?_)
    · refine ax_aload_n hC 0 dX11_look_22 rfl rfl ?_
      refine ax_getf (v := .ref (o + 41)) hC hO iX11 rfl 10 (by decide) (by decide +kernel) rfl rfl dX11_look_23 ?_
      refine ax_getf (v := .ref (o + 41 + 1)) hC hRo iX9 rfl 0 (by decide) (by decide +kernel) rfl rfl dX11_look_26 ?_
      refine ax_iload_n hC 1 dX11_look_29 rfl rfl ?_
      have b5 : vp_in (nI ee) 16 := vp_in_nI (by omega) (by omega)
      refine ax_aald hC hef 3 rfl b5 dX11_look_30 ?_
      refine ax_eqq (y := ef ee) (by rw [nI_clamp (by omega)] <;> rfl) ?_
      refine ax_eqq (y := some (o + 41 + 5 + 2 * ee)) (hefi ee (by omega)) ?_
      refine ax_astore_n hC [(3, .ref (o + 41 + 5 + 2 * ee)), (0, .ref o), (1, .int (nI ee)), (2, .int 1)] dX11_look_31 rfl (by decide) rfl ?_
      refine ax_iload_n hC 3 dX11_look_32 rfl rfl ?_
      refine ax_tableIn (tgt := 77) (off := 44) hC dX11_look_33 (by decide) (by decide) (by decide) (by decide) ?_
      refine ax_aload_n hC 0 dX11_look_77 rfl rfl ?_
      refine ax_callVp (st := []) hC [] hE.1 rfl (c_X2_kind l D z B lo _ h (o + 41 + 5 + 2 * ee) a n hld en es (nI q9) mo nd9 lf T ⟨hE.1, hE.2⟩ hP hcap hn) (cwV 0 hC.1.2.2.2.2 gX11_look_X2_kind rfl rfl rfl (by decide +kernel) ⟨Nat.le_of_ble_eq_true rfl, Nat.le_of_ble_eq_true rfl⟩) rfl rfl (Nat.le_of_ble_eq_true rfl) dX11_look_78 ⟨Nat.le_of_ble_eq_true rfl, Nat.le_of_ble_eq_true rfl⟩ (fun r6 er7 => ?_)
      subst er7
      refine ax_iret hC hr hlocks dX11_look_81 ?_
      exact ⟨rfl, rfl, rfl⟩
    · exact absurd (nI_lt (a := ee) (b := 16) (by omega) (by decide)) c4

set_option maxRecDepth 100000 in
set_option maxHeartbeats 4000000 in
theorem c_X11_look_2 (l : Launch) (D : va_G) (z : Nat → ClassId) (B : Heap) (lo hi : Nat) (h : Nat → Option va_E) (o : Nat) (on kp : Int32) (sn : Nat) (rm st dn wt br gv ed : Int32) (ee a n q9 : Nat) (hld en es mo nd9 : Int32) (lf : Nat → Int32) (T : PT) (hO : ObS h o on kp) (hRm : RmS z h (o + 41) (nI sn) rm st dn wt br gv ed) (hE : EndS z h (o + 41 + 5 + 2 * ee) hld (some a) (nI n) en es (nI q9) mo lf) (hP : PrC z h a nd9 T) (hcap : pcap T ≤ 60) (hn : n < pcap T) (hee : ee < 16) (hsn : sn ≤ 8) (hes : ee < 2 * sn) (hen : en = 0 ∨ en = 1) : Met l yX11_look wsX11_look rmX11_look (KP D vwCl B lo hi h (ty6 z) [.ref o, .int (nI ee), .int 2]) (KQp D vwCl B lo hi h (ty6 z) (fun r => r = pLb T n)) 0 0 (fun q => lo ≤ q) := by
  refine ax_met (by decide) rfl (Nat.le_of_ble_eq_true rfl) (L0 := [(0, .ref o), (1, .int (nI ee)), (2, .int 2)]) rfl ?_
  intro p e s m args below meth c hC hr hlocks hnm hargs
  have iX11 : ∀ w ∈ u_ws RX11 TX11 13, w ∈ wsX11_look := by decide +kernel
  have iX9 : ∀ w ∈ u_ws RX9 TX9 11, w ∈ wsX11_look := by decide +kernel
  obtain ⟨hRo, ef, hef, hefi⟩ := id hRm
  refine ax_aload_n hC 0 dX11_look_0 rfl rfl ?_
  refine ax_iload_n hC 1 dX11_look_1 rfl rfl ?_
  refine ax_callVp (st := []) hC [.int (nI ee)] hO rfl (c_X11_isEnd l D z B lo _ h o on kp ee sn rm st dn wt br gv ed hO hRm hsn hes) (cwV 1 hC.1.2.2.2.2 gX11_look_X11_isEnd rfl rfl rfl (by decide +kernel) ⟨Nat.le_of_ble_eq_true rfl, Nat.le_of_ble_eq_true rfl⟩) rfl rfl (Nat.le_of_ble_eq_true rfl) dX11_look_2 ⟨Nat.le_of_ble_eq_true rfl, Nat.le_of_ble_eq_true rfl⟩ (fun r1 er2 => ?_)
  subst er2
  refine ax_if_eq (tgt := 20) hC dX11_look_5 (by decide) (fun c3 => ?_) (fun c3 => ?_)
  · exact absurd c3 (by decide)
  · refine ax_iload_n hC 1 dX11_look_8 rfl rfl ?_
    refine ax_aload_n hC 0 dX11_look_9 rfl rfl ?_
    refine ax_getf (v := .ref (o + 41)) hC hO iX11 rfl 10 (by decide) (by decide +kernel) rfl rfl dX11_look_10 ?_
    refine ax_getf (v := .ref (o + 41 + 1)) hC hRo iX9 rfl 0 (by decide) (by decide +kernel) rfl rfl dX11_look_13 ?_
    refine ax_alen (v := 16) hC hef 3 rfl rfl dX11_look_16 ?_
    refine ax_icmp_lt (tgt := 22) hC dX11_look_17 (by decide) (fun c4 => ?_) (fun c4 => ?_)
    · refine ax_aload_n hC 0 dX11_look_22 rfl rfl ?_
      refine ax_getf (v := .ref (o + 41)) hC hO iX11 rfl 10 (by decide) (by decide +kernel) rfl rfl dX11_look_23 ?_
      refine ax_getf (v := .ref (o + 41 + 1)) hC hRo iX9 rfl 0 (by decide) (by decide +kernel) rfl rfl dX11_look_26 ?_
      refine ax_iload_n hC 1 dX11_look_29 rfl rfl ?_
      have b5 : vp_in (nI ee) 16 := vp_in_nI (by omega) (by omega)
      refine ax_aald hC hef 3 rfl b5 dX11_look_30 ?_
      refine ax_eqq (y := ef ee) (by rw [nI_clamp (by omega)] <;> rfl) ?_
      refine ax_eqq (y := some (o + 41 + 5 + 2 * ee)) (hefi ee (by omega)) ?_
      refine ax_astore_n hC [(3, .ref (o + 41 + 5 + 2 * ee)), (0, .ref o), (1, .int (nI ee)), (2, .int 2)] dX11_look_31 rfl (by decide) rfl ?_
      refine ax_iload_n hC 3 dX11_look_32 rfl rfl ?_
      refine ax_tableIn (tgt := 82) (off := 49) hC dX11_look_33 (by decide) (by decide) (by decide) (by decide) ?_
      refine ax_aload_n hC 0 dX11_look_82 rfl rfl ?_
      refine ax_callVp (st := []) hC [] hE.1 rfl (c_X2_labels l D z B lo _ h (o + 41 + 5 + 2 * ee) a n hld en es (nI q9) mo nd9 lf T ⟨hE.1, hE.2⟩ hP hcap hn) (cwV 0 hC.1.2.2.2.2 gX11_look_X2_labels rfl rfl rfl (by decide +kernel) ⟨Nat.le_of_ble_eq_true rfl, Nat.le_of_ble_eq_true rfl⟩) rfl rfl (Nat.le_of_ble_eq_true rfl) dX11_look_83 ⟨Nat.le_of_ble_eq_true rfl, Nat.le_of_ble_eq_true rfl⟩ (fun r6 er7 => ?_)
      subst er7
      refine ax_iret hC hr hlocks dX11_look_86 ?_
      exact ⟨rfl, rfl, rfl⟩
    · exact absurd (nI_lt (a := ee) (b := 16) (by omega) (by decide)) c4

set_option maxRecDepth 100000 in
set_option maxHeartbeats 4000000 in
theorem c_X11_look_3 (l : Launch) (D : va_G) (z : Nat → ClassId) (B : Heap) (lo hi : Nat) (h : Nat → Option va_E) (o : Nat) (on kp : Int32) (sn : Nat) (rm st dn wt br gv ed : Int32) (ee a n q9 : Nat) (hld en es mo nd9 : Int32) (lf : Nat → Int32) (T : PT) (hO : ObS h o on kp) (hRm : RmS z h (o + 41) (nI sn) rm st dn wt br gv ed) (hE : EndS z h (o + 41 + 5 + 2 * ee) hld (some a) (nI n) en es (nI q9) mo lf) (hP : PrC z h a nd9 T) (hcap : pcap T ≤ 60) (hn : n < pcap T) (hee : ee < 16) (hsn : sn ≤ 8) (hes : ee < 2 * sn) (hen : en = 0 ∨ en = 1) : Met l yX11_look wsX11_look rmX11_look (KP D vwCl B lo hi h (ty6 z) [.ref o, .int (nI ee), .int 3]) (KQp D vwCl B lo hi h (ty6 z) (fun r => r = nI q9)) 0 0 (fun q => lo ≤ q) := by
  refine ax_met (by decide) rfl (Nat.le_of_ble_eq_true rfl) (L0 := [(0, .ref o), (1, .int (nI ee)), (2, .int 3)]) rfl ?_
  intro p e s m args below meth c hC hr hlocks hnm hargs
  have iX11 : ∀ w ∈ u_ws RX11 TX11 13, w ∈ wsX11_look := by decide +kernel
  have iX2 : ∀ w ∈ u_ws RX2 TX2 8, w ∈ wsX11_look := by decide +kernel
  have iX9 : ∀ w ∈ u_ws RX9 TX9 11, w ∈ wsX11_look := by decide +kernel
  obtain ⟨hRo, ef, hef, hefi⟩ := id hRm
  refine ax_aload_n hC 0 dX11_look_0 rfl rfl ?_
  refine ax_iload_n hC 1 dX11_look_1 rfl rfl ?_
  refine ax_callVp (st := []) hC [.int (nI ee)] hO rfl (c_X11_isEnd l D z B lo _ h o on kp ee sn rm st dn wt br gv ed hO hRm hsn hes) (cwV 1 hC.1.2.2.2.2 gX11_look_X11_isEnd rfl rfl rfl (by decide +kernel) ⟨Nat.le_of_ble_eq_true rfl, Nat.le_of_ble_eq_true rfl⟩) rfl rfl (Nat.le_of_ble_eq_true rfl) dX11_look_2 ⟨Nat.le_of_ble_eq_true rfl, Nat.le_of_ble_eq_true rfl⟩ (fun r1 er2 => ?_)
  subst er2
  refine ax_if_eq (tgt := 20) hC dX11_look_5 (by decide) (fun c3 => ?_) (fun c3 => ?_)
  · exact absurd c3 (by decide)
  · refine ax_iload_n hC 1 dX11_look_8 rfl rfl ?_
    refine ax_aload_n hC 0 dX11_look_9 rfl rfl ?_
    refine ax_getf (v := .ref (o + 41)) hC hO iX11 rfl 10 (by decide) (by decide +kernel) rfl rfl dX11_look_10 ?_
    refine ax_getf (v := .ref (o + 41 + 1)) hC hRo iX9 rfl 0 (by decide) (by decide +kernel) rfl rfl dX11_look_13 ?_
    refine ax_alen (v := 16) hC hef 3 rfl rfl dX11_look_16 ?_
    refine ax_icmp_lt (tgt := 22) hC dX11_look_17 (by decide) (fun c4 => ?_) (fun c4 => ?_)
    · refine ax_aload_n hC 0 dX11_look_22 rfl rfl ?_
      refine ax_getf (v := .ref (o + 41)) hC hO iX11 rfl 10 (by decide) (by decide +kernel) rfl rfl dX11_look_23 ?_
      refine ax_getf (v := .ref (o + 41 + 1)) hC hRo iX9 rfl 0 (by decide) (by decide +kernel) rfl rfl dX11_look_26 ?_
      refine ax_iload_n hC 1 dX11_look_29 rfl rfl ?_
      have b5 : vp_in (nI ee) 16 := vp_in_nI (by omega) (by omega)
      refine ax_aald hC hef 3 rfl b5 dX11_look_30 ?_
      refine ax_eqq (y := ef ee) (by rw [nI_clamp (by omega)] <;> rfl) ?_
      refine ax_eqq (y := some (o + 41 + 5 + 2 * ee)) (hefi ee (by omega)) ?_
      refine ax_astore_n hC [(3, .ref (o + 41 + 5 + 2 * ee)), (0, .ref o), (1, .int (nI ee)), (2, .int 3)] dX11_look_31 rfl (by decide) rfl ?_
      refine ax_iload_n hC 3 dX11_look_32 rfl rfl ?_
      refine ax_tableIn (tgt := 87) (off := 54) hC dX11_look_33 (by decide) (by decide) (by decide) (by decide) ?_
      refine ax_aload_n hC 0 dX11_look_87 rfl rfl ?_
      refine ax_getf (v := .int (nI q9)) hC hE.1 iX2 rfl 5 (by decide) (by decide +kernel) rfl rfl dX11_look_88 ?_
      refine ax_iret hC hr hlocks dX11_look_91 ?_
      exact ⟨rfl, rfl, rfl⟩
    · exact absurd (nI_lt (a := ee) (b := 16) (by omega) (by decide)) c4

set_option maxRecDepth 100000 in
set_option maxHeartbeats 4000000 in
theorem c_X11_look_5 (l : Launch) (D : va_G) (z : Nat → ClassId) (B : Heap) (lo hi : Nat) (h : Nat → Option va_E) (o : Nat) (on kp : Int32) (sn : Nat) (rm st dn wt br gv ed : Int32) (ee a n q9 : Nat) (hld en es mo nd9 : Int32) (lf : Nat → Int32) (T : PT) (hO : ObS h o on kp) (hRm : RmS z h (o + 41) (nI sn) rm st dn wt br gv ed) (hE : EndS z h (o + 41 + 5 + 2 * ee) hld (some a) (nI n) en es (nI q9) mo lf) (hP : PrC z h a nd9 T) (hcap : pcap T ≤ 60) (hn : n < pcap T) (hee : ee < 16) (hsn : sn ≤ 8) (hes : ee < 2 * sn) (hen : en = 0 ∨ en = 1) : Met l yX11_look wsX11_look rmX11_look (KP D vwCl B lo hi h (ty6 z) [.ref o, .int (nI ee), .int 5]) (KQp D vwCl B lo hi h (ty6 z) (fun r => r = en)) 0 0 (fun q => lo ≤ q) := by
  refine ax_met (by decide) rfl (Nat.le_of_ble_eq_true rfl) (L0 := [(0, .ref o), (1, .int (nI ee)), (2, .int 5)]) rfl ?_
  intro p e s m args below meth c hC hr hlocks hnm hargs
  have iX11 : ∀ w ∈ u_ws RX11 TX11 13, w ∈ wsX11_look := by decide +kernel
  have iX2 : ∀ w ∈ u_ws RX2 TX2 8, w ∈ wsX11_look := by decide +kernel
  have iX9 : ∀ w ∈ u_ws RX9 TX9 11, w ∈ wsX11_look := by decide +kernel
  obtain ⟨hRo, ef, hef, hefi⟩ := id hRm
  refine ax_aload_n hC 0 dX11_look_0 rfl rfl ?_
  refine ax_iload_n hC 1 dX11_look_1 rfl rfl ?_
  refine ax_callVp (st := []) hC [.int (nI ee)] hO rfl (c_X11_isEnd l D z B lo _ h o on kp ee sn rm st dn wt br gv ed hO hRm hsn hes) (cwV 1 hC.1.2.2.2.2 gX11_look_X11_isEnd rfl rfl rfl (by decide +kernel) ⟨Nat.le_of_ble_eq_true rfl, Nat.le_of_ble_eq_true rfl⟩) rfl rfl (Nat.le_of_ble_eq_true rfl) dX11_look_2 ⟨Nat.le_of_ble_eq_true rfl, Nat.le_of_ble_eq_true rfl⟩ (fun r1 er2 => ?_)
  subst er2
  refine ax_if_eq (tgt := 20) hC dX11_look_5 (by decide) (fun c3 => ?_) (fun c3 => ?_)
  · exact absurd c3 (by decide)
  · refine ax_iload_n hC 1 dX11_look_8 rfl rfl ?_
    refine ax_aload_n hC 0 dX11_look_9 rfl rfl ?_
    refine ax_getf (v := .ref (o + 41)) hC hO iX11 rfl 10 (by decide) (by decide +kernel) rfl rfl dX11_look_10 ?_
    refine ax_getf (v := .ref (o + 41 + 1)) hC hRo iX9 rfl 0 (by decide) (by decide +kernel) rfl rfl dX11_look_13 ?_
    refine ax_alen (v := 16) hC hef 3 rfl rfl dX11_look_16 ?_
    refine ax_icmp_lt (tgt := 22) hC dX11_look_17 (by decide) (fun c4 => ?_) (fun c4 => ?_)
    · refine ax_aload_n hC 0 dX11_look_22 rfl rfl ?_
      refine ax_getf (v := .ref (o + 41)) hC hO iX11 rfl 10 (by decide) (by decide +kernel) rfl rfl dX11_look_23 ?_
      refine ax_getf (v := .ref (o + 41 + 1)) hC hRo iX9 rfl 0 (by decide) (by decide +kernel) rfl rfl dX11_look_26 ?_
      refine ax_iload_n hC 1 dX11_look_29 rfl rfl ?_
      have b5 : vp_in (nI ee) 16 := vp_in_nI (by omega) (by omega)
      refine ax_aald hC hef 3 rfl b5 dX11_look_30 ?_
      refine ax_eqq (y := ef ee) (by rw [nI_clamp (by omega)] <;> rfl) ?_
      refine ax_eqq (y := some (o + 41 + 5 + 2 * ee)) (hefi ee (by omega)) ?_
      refine ax_astore_n hC [(3, .ref (o + 41 + 5 + 2 * ee)), (0, .ref o), (1, .int (nI ee)), (2, .int 5)] dX11_look_31 rfl (by decide) rfl ?_
      refine ax_iload_n hC 3 dX11_look_32 rfl rfl ?_
      refine ax_tableIn (tgt := 97) (off := 64) hC dX11_look_33 (by decide) (by decide) (by decide) (by decide) ?_
      refine ax_aload_n hC 0 dX11_look_97 rfl rfl ?_
      refine ax_getf (v := .int en) hC hE.1 iX2 rfl 3 (by decide) (by decide +kernel) rfl rfl dX11_look_98 ?_
      refine ax_if_eq (tgt := 108) hC dX11_look_101 (by decide) (fun c6 => ?_) (fun c6 => ?_)
      · refine ax_iconst (v := 0) hC dX11_look_108 (by decide) ?_
        refine ax_iret hC hr hlocks dX11_look_109 ?_
        exact ⟨(c6).symm, rfl, rfl⟩
      · refine ax_iconst (v := 1) hC dX11_look_104 (by decide) ?_
        refine ax_goto (tgt := 109) hC dX11_look_105 (by decide) ?_
        refine ax_iret hC hr hlocks dX11_look_109 ?_
        exact ⟨(hen.resolve_left c6).symm, rfl, rfl⟩
    · exact absurd (nI_lt (a := ee) (b := 16) (by omega) (by decide)) c4

abbrev rmX11_blame : Room := { frames := 1, cells := 0, slots := 0, locals := 21 }
set_option maxRecDepth 100000 in
set_option maxHeartbeats 4000000 in
theorem c_X11_blame_2 (l : Launch) (D : va_G) (z : Nat → ClassId) (B : Heap) (lo hi : Nat) (h : Nat → Option va_E) (o : Nat) (on kp : Int32) (sn : Nat) (rm st dn wt br gv ed : Int32) (pa st9 en9 : Int32) (cf : Nat → Int32) (hO : ObS h o on kp) (hRm : RmS z h (o + 41) (nI sn) rm st dn wt br gv ed) (hB : BlmS z h (o + 41 + 3) pa st9 3 en9 2 cf) : Met l yX11_blame wsX11_blame rmX11_blame (KP D vwCl B lo hi h (ty6 z) [.ref o, .int 2]) (KQp D vwCl B lo hi h (ty6 z) (fun r => r = 3)) 0 0 (fun q => lo ≤ q) := by
  refine ax_met (by decide) rfl (Nat.le_of_ble_eq_true rfl) (L0 := [(0, .ref o), (1, .int 2)]) rfl ?_
  intro p e s m args below meth c hC hr hlocks hnm hargs
  have iX0 : ∀ w ∈ u_ws RX0 TX0 6, w ∈ wsX11_blame := by decide +kernel
  have iX11 : ∀ w ∈ u_ws RX11 TX11 13, w ∈ wsX11_blame := by decide +kernel
  have iX9 : ∀ w ∈ u_ws RX9 TX9 11, w ∈ wsX11_blame := by decide +kernel
  obtain ⟨hRo, ef, hef, hefi⟩ := id hRm
  refine ax_iload_n hC 1 dX11_blame_0 rfl rfl ?_
  refine ax_if_lt (tgt := 10) hC dX11_blame_1 (by decide) (fun c1 => ?_) (fun c1 => ?_)
  · exact absurd c1 (by decide)
  · refine ax_iload_n hC 1 dX11_blame_4 rfl rfl ?_
    refine ax_bipush (v := 7) hC dX11_blame_5 (by decide) ?_
    refine ax_icmp_le (tgt := 12) hC dX11_blame_7 (by decide) (fun c2 => ?_) (fun c2 => ?_)
    · refine ax_aload_n hC 0 dX11_blame_12 rfl rfl ?_
      refine ax_getf (v := .ref (o + 41)) hC hO iX11 rfl 10 (by decide) (by decide +kernel) rfl rfl dX11_blame_13 ?_
      refine ax_getf (v := .ref (o + 41 + 3)) hC hRo iX9 rfl 2 (by decide) (by decide +kernel) rfl rfl dX11_blame_16 ?_
      refine ax_astore_n hC [(2, .ref (o + 41 + 3)), (0, .ref o), (1, .int 2)] dX11_blame_19 rfl (by decide) rfl ?_
      refine ax_aload_n hC 0 dX11_blame_20 rfl rfl ?_
      refine ax_getf (v := .int 3) hC hB.1 iX0 rfl 2 (by decide) (by decide +kernel) rfl rfl dX11_blame_21 ?_
      refine ax_if_ne (tgt := 30) hC dX11_blame_24 (by decide) (fun c3 => ?_) (fun c3 => ?_)
      · refine ax_iload_n hC 2 dX11_blame_30 rfl rfl ?_
        refine ax_tableIn (tgt := 74) (off := 43) hC dX11_blame_31 (by decide) (by decide) (by decide) (by decide) ?_
        refine ax_aload_n hC 0 dX11_blame_74 rfl rfl ?_
        refine ax_getf (v := .int 3) hC hB.1 iX0 rfl 2 (by decide) (by decide +kernel) rfl rfl dX11_blame_75 ?_
        refine ax_iret hC hr hlocks dX11_blame_78 ?_
        exact ⟨rfl, rfl, rfl⟩
      · exact absurd c3 (by decide)
    · exact absurd c2 (by decide)

set_option maxRecDepth 100000 in
set_option maxHeartbeats 4000000 in
theorem c_X11_blame_5 (l : Launch) (D : va_G) (z : Nat → ClassId) (B : Heap) (lo hi : Nat) (h : Nat → Option va_E) (o : Nat) (on kp : Int32) (sn : Nat) (rm st dn wt br gv ed : Int32) (pa st9 en9 : Int32) (cf : Nat → Int32) (hO : ObS h o on kp) (hRm : RmS z h (o + 41) (nI sn) rm st dn wt br gv ed) (hB : BlmS z h (o + 41 + 3) pa st9 3 en9 2 cf) : Met l yX11_blame wsX11_blame rmX11_blame (KP D vwCl B lo hi h (ty6 z) [.ref o, .int 5]) (KQp D vwCl B lo hi h (ty6 z) (fun r => r = cf 0)) 0 0 (fun q => lo ≤ q) := by
  refine ax_met (by decide) rfl (Nat.le_of_ble_eq_true rfl) (L0 := [(0, .ref o), (1, .int 5)]) rfl ?_
  intro p e s m args below meth c hC hr hlocks hnm hargs
  have iX0 : ∀ w ∈ u_ws RX0 TX0 6, w ∈ wsX11_blame := by decide +kernel
  have iX11 : ∀ w ∈ u_ws RX11 TX11 13, w ∈ wsX11_blame := by decide +kernel
  have iX9 : ∀ w ∈ u_ws RX9 TX9 11, w ∈ wsX11_blame := by decide +kernel
  obtain ⟨hRo, ef, hef, hefi⟩ := id hRm
  refine ax_iload_n hC 1 dX11_blame_0 rfl rfl ?_
  refine ax_if_lt (tgt := 10) hC dX11_blame_1 (by decide) (fun c1 => ?_) (fun c1 => ?_)
  · exact absurd c1 (by decide)
  · refine ax_iload_n hC 1 dX11_blame_4 rfl rfl ?_
    refine ax_bipush (v := 7) hC dX11_blame_5 (by decide) ?_
    refine ax_icmp_le (tgt := 12) hC dX11_blame_7 (by decide) (fun c2 => ?_) (fun c2 => ?_)
    · refine ax_aload_n hC 0 dX11_blame_12 rfl rfl ?_
      refine ax_getf (v := .ref (o + 41)) hC hO iX11 rfl 10 (by decide) (by decide +kernel) rfl rfl dX11_blame_13 ?_
      refine ax_getf (v := .ref (o + 41 + 3)) hC hRo iX9 rfl 2 (by decide) (by decide +kernel) rfl rfl dX11_blame_16 ?_
      refine ax_astore_n hC [(2, .ref (o + 41 + 3)), (0, .ref o), (1, .int 5)] dX11_blame_19 rfl (by decide) rfl ?_
      refine ax_aload_n hC 0 dX11_blame_20 rfl rfl ?_
      refine ax_getf (v := .int 3) hC hB.1 iX0 rfl 2 (by decide) (by decide +kernel) rfl rfl dX11_blame_21 ?_
      refine ax_if_ne (tgt := 30) hC dX11_blame_24 (by decide) (fun c3 => ?_) (fun c3 => ?_)
      · refine ax_iload_n hC 2 dX11_blame_30 rfl rfl ?_
        refine ax_tableOut (tgt := 89) hC dX11_blame_31 (by decide) (by decide) ?_
        refine ax_aload_n hC 0 dX11_blame_89 rfl rfl ?_
        refine ax_iload_n hC 2 dX11_blame_90 rfl rfl ?_
        refine ax_iconst (v := 5) hC dX11_blame_91 (by decide) ?_
        refine ax_isub hC dX11_blame_92 ?_
        refine ax_eqi (y := 0) (by decide) ?_
        refine ax_callVp (st := []) hC [.int 0] hB.1 rfl (c_X0_causeAt_0 l D z B lo _ h (o + 41 + 3) pa st9 3 en9 cf hB) (cwV 1 hC.1.2.2.2.2 gX11_blame_X0_causeAt rfl rfl rfl (by decide +kernel) ⟨Nat.le_of_ble_eq_true rfl, Nat.le_of_ble_eq_true rfl⟩) rfl rfl (Nat.le_of_ble_eq_true rfl) dX11_blame_93 ⟨Nat.le_of_ble_eq_true rfl, Nat.le_of_ble_eq_true rfl⟩ (fun r4 er5 => ?_)
        subst er5
        refine ax_iret hC hr hlocks dX11_blame_96 ?_
        exact ⟨rfl, rfl, rfl⟩
      · exact absurd c3 (by decide)
    · exact absurd c2 (by decide)

set_option maxRecDepth 100000 in
set_option maxHeartbeats 4000000 in
theorem c_X11_blame_6 (l : Launch) (D : va_G) (z : Nat → ClassId) (B : Heap) (lo hi : Nat) (h : Nat → Option va_E) (o : Nat) (on kp : Int32) (sn : Nat) (rm st dn wt br gv ed : Int32) (pa st9 en9 : Int32) (cf : Nat → Int32) (hO : ObS h o on kp) (hRm : RmS z h (o + 41) (nI sn) rm st dn wt br gv ed) (hB : BlmS z h (o + 41 + 3) pa st9 3 en9 2 cf) : Met l yX11_blame wsX11_blame rmX11_blame (KP D vwCl B lo hi h (ty6 z) [.ref o, .int 6]) (KQp D vwCl B lo hi h (ty6 z) (fun r => r = cf 1)) 0 0 (fun q => lo ≤ q) := by
  refine ax_met (by decide) rfl (Nat.le_of_ble_eq_true rfl) (L0 := [(0, .ref o), (1, .int 6)]) rfl ?_
  intro p e s m args below meth c hC hr hlocks hnm hargs
  have iX0 : ∀ w ∈ u_ws RX0 TX0 6, w ∈ wsX11_blame := by decide +kernel
  have iX11 : ∀ w ∈ u_ws RX11 TX11 13, w ∈ wsX11_blame := by decide +kernel
  have iX9 : ∀ w ∈ u_ws RX9 TX9 11, w ∈ wsX11_blame := by decide +kernel
  obtain ⟨hRo, ef, hef, hefi⟩ := id hRm
  refine ax_iload_n hC 1 dX11_blame_0 rfl rfl ?_
  refine ax_if_lt (tgt := 10) hC dX11_blame_1 (by decide) (fun c1 => ?_) (fun c1 => ?_)
  · exact absurd c1 (by decide)
  · refine ax_iload_n hC 1 dX11_blame_4 rfl rfl ?_
    refine ax_bipush (v := 7) hC dX11_blame_5 (by decide) ?_
    refine ax_icmp_le (tgt := 12) hC dX11_blame_7 (by decide) (fun c2 => ?_) (fun c2 => ?_)
    · refine ax_aload_n hC 0 dX11_blame_12 rfl rfl ?_
      refine ax_getf (v := .ref (o + 41)) hC hO iX11 rfl 10 (by decide) (by decide +kernel) rfl rfl dX11_blame_13 ?_
      refine ax_getf (v := .ref (o + 41 + 3)) hC hRo iX9 rfl 2 (by decide) (by decide +kernel) rfl rfl dX11_blame_16 ?_
      refine ax_astore_n hC [(2, .ref (o + 41 + 3)), (0, .ref o), (1, .int 6)] dX11_blame_19 rfl (by decide) rfl ?_
      refine ax_aload_n hC 0 dX11_blame_20 rfl rfl ?_
      refine ax_getf (v := .int 3) hC hB.1 iX0 rfl 2 (by decide) (by decide +kernel) rfl rfl dX11_blame_21 ?_
      refine ax_if_ne (tgt := 30) hC dX11_blame_24 (by decide) (fun c3 => ?_) (fun c3 => ?_)
      · refine ax_iload_n hC 2 dX11_blame_30 rfl rfl ?_
        refine ax_tableOut (tgt := 89) hC dX11_blame_31 (by decide) (by decide) ?_
        refine ax_aload_n hC 0 dX11_blame_89 rfl rfl ?_
        refine ax_iload_n hC 2 dX11_blame_90 rfl rfl ?_
        refine ax_iconst (v := 5) hC dX11_blame_91 (by decide) ?_
        refine ax_isub hC dX11_blame_92 ?_
        refine ax_eqi (y := 1) (by decide) ?_
        refine ax_callVp (st := []) hC [.int 1] hB.1 rfl (c_X0_causeAt_1 l D z B lo _ h (o + 41 + 3) pa st9 3 en9 cf hB) (cwV 1 hC.1.2.2.2.2 gX11_blame_X0_causeAt rfl rfl rfl (by decide +kernel) ⟨Nat.le_of_ble_eq_true rfl, Nat.le_of_ble_eq_true rfl⟩) rfl rfl (Nat.le_of_ble_eq_true rfl) dX11_blame_93 ⟨Nat.le_of_ble_eq_true rfl, Nat.le_of_ble_eq_true rfl⟩ (fun r4 er5 => ?_)
        subst er5
        refine ax_iret hC hr hlocks dX11_blame_96 ?_
        exact ⟨rfl, rfl, rfl⟩
      · exact absurd c3 (by decide)
    · exact absurd c2 (by decide)

abbrev rmX11_led : Room := { frames := 0, cells := 0, slots := 0, locals := 0 }
set_option maxRecDepth 100000 in
set_option maxHeartbeats 4000000 in
theorem c_X11_led_0 (l : Launch) (D : va_G) (z : Nat → ClassId) (B : Heap) (lo hi : Nat) (h : Nat → Option va_E) (o : Nat) (on kp : Int32) (sn : Nat) (rm st dn wt br gv ed : Int32) (hO : ObS h o on kp) (hRm : RmS z h (o + 41) (nI sn) rm st dn wt br gv ed) : Met l yX11_led wsX11_led rmX11_led (KP D vwCl B lo hi h (ty6 z) [.ref o, .int 0]) (KQp D vwCl B lo hi h (ty6 z) (fun r => r = st)) 0 0 (fun q => lo ≤ q) := by
  refine ax_met (by decide) rfl (Nat.le_of_ble_eq_true rfl) (L0 := [(0, .ref o), (1, .int 0)]) rfl ?_
  intro p e s m args below meth c hC hr hlocks hnm hargs
  have iX11 : ∀ w ∈ u_ws RX11 TX11 13, w ∈ wsX11_led := by decide +kernel
  have iX9 : ∀ w ∈ u_ws RX9 TX9 11, w ∈ wsX11_led := by decide +kernel
  obtain ⟨hRo, ef, hef, hefi⟩ := id hRm
  refine ax_iload_n hC 1 dX11_led_0 rfl rfl ?_
  refine ax_tableIn (tgt := 40) (off := 39) hC dX11_led_1 (by decide) (by decide) (by decide) (by decide) ?_
  refine ax_aload_n hC 0 dX11_led_40 rfl rfl ?_
  refine ax_getf (v := .ref (o + 41)) hC hO iX11 rfl 10 (by decide) (by decide +kernel) rfl rfl dX11_led_41 ?_
  refine ax_getf (v := .int st) hC hRo iX9 rfl 5 (by decide) (by decide +kernel) rfl rfl dX11_led_44 ?_
  refine ax_iret hC hr hlocks dX11_led_47 ?_
  exact ⟨rfl, rfl, rfl⟩

set_option maxRecDepth 100000 in
set_option maxHeartbeats 4000000 in
theorem c_X11_led_1 (l : Launch) (D : va_G) (z : Nat → ClassId) (B : Heap) (lo hi : Nat) (h : Nat → Option va_E) (o : Nat) (on kp : Int32) (sn : Nat) (rm st dn wt br gv ed : Int32) (hO : ObS h o on kp) (hRm : RmS z h (o + 41) (nI sn) rm st dn wt br gv ed) : Met l yX11_led wsX11_led rmX11_led (KP D vwCl B lo hi h (ty6 z) [.ref o, .int 1]) (KQp D vwCl B lo hi h (ty6 z) (fun r => r = dn)) 0 0 (fun q => lo ≤ q) := by
  refine ax_met (by decide) rfl (Nat.le_of_ble_eq_true rfl) (L0 := [(0, .ref o), (1, .int 1)]) rfl ?_
  intro p e s m args below meth c hC hr hlocks hnm hargs
  have iX11 : ∀ w ∈ u_ws RX11 TX11 13, w ∈ wsX11_led := by decide +kernel
  have iX9 : ∀ w ∈ u_ws RX9 TX9 11, w ∈ wsX11_led := by decide +kernel
  obtain ⟨hRo, ef, hef, hefi⟩ := id hRm
  refine ax_iload_n hC 1 dX11_led_0 rfl rfl ?_
  refine ax_tableIn (tgt := 48) (off := 47) hC dX11_led_1 (by decide) (by decide) (by decide) (by decide) ?_
  refine ax_aload_n hC 0 dX11_led_48 rfl rfl ?_
  refine ax_getf (v := .ref (o + 41)) hC hO iX11 rfl 10 (by decide) (by decide +kernel) rfl rfl dX11_led_49 ?_
  refine ax_getf (v := .int dn) hC hRo iX9 rfl 6 (by decide) (by decide +kernel) rfl rfl dX11_led_52 ?_
  refine ax_iret hC hr hlocks dX11_led_55 ?_
  exact ⟨rfl, rfl, rfl⟩

set_option maxRecDepth 100000 in
set_option maxHeartbeats 4000000 in
theorem c_X11_led_2 (l : Launch) (D : va_G) (z : Nat → ClassId) (B : Heap) (lo hi : Nat) (h : Nat → Option va_E) (o : Nat) (on kp : Int32) (sn : Nat) (rm st dn wt br gv ed : Int32) (hO : ObS h o on kp) (hRm : RmS z h (o + 41) (nI sn) rm st dn wt br gv ed) : Met l yX11_led wsX11_led rmX11_led (KP D vwCl B lo hi h (ty6 z) [.ref o, .int 2]) (KQp D vwCl B lo hi h (ty6 z) (fun r => r = wt)) 0 0 (fun q => lo ≤ q) := by
  refine ax_met (by decide) rfl (Nat.le_of_ble_eq_true rfl) (L0 := [(0, .ref o), (1, .int 2)]) rfl ?_
  intro p e s m args below meth c hC hr hlocks hnm hargs
  have iX11 : ∀ w ∈ u_ws RX11 TX11 13, w ∈ wsX11_led := by decide +kernel
  have iX9 : ∀ w ∈ u_ws RX9 TX9 11, w ∈ wsX11_led := by decide +kernel
  obtain ⟨hRo, ef, hef, hefi⟩ := id hRm
  refine ax_iload_n hC 1 dX11_led_0 rfl rfl ?_
  refine ax_tableIn (tgt := 56) (off := 55) hC dX11_led_1 (by decide) (by decide) (by decide) (by decide) ?_
  refine ax_aload_n hC 0 dX11_led_56 rfl rfl ?_
  refine ax_getf (v := .ref (o + 41)) hC hO iX11 rfl 10 (by decide) (by decide +kernel) rfl rfl dX11_led_57 ?_
  refine ax_getf (v := .int wt) hC hRo iX9 rfl 7 (by decide) (by decide +kernel) rfl rfl dX11_led_60 ?_
  refine ax_iret hC hr hlocks dX11_led_63 ?_
  exact ⟨rfl, rfl, rfl⟩

set_option maxRecDepth 100000 in
set_option maxHeartbeats 4000000 in
theorem c_X11_led_3 (l : Launch) (D : va_G) (z : Nat → ClassId) (B : Heap) (lo hi : Nat) (h : Nat → Option va_E) (o : Nat) (on kp : Int32) (sn : Nat) (rm st dn wt br gv ed : Int32) (hO : ObS h o on kp) (hRm : RmS z h (o + 41) (nI sn) rm st dn wt br gv ed) : Met l yX11_led wsX11_led rmX11_led (KP D vwCl B lo hi h (ty6 z) [.ref o, .int 3]) (KQp D vwCl B lo hi h (ty6 z) (fun r => r = br)) 0 0 (fun q => lo ≤ q) := by
  refine ax_met (by decide) rfl (Nat.le_of_ble_eq_true rfl) (L0 := [(0, .ref o), (1, .int 3)]) rfl ?_
  intro p e s m args below meth c hC hr hlocks hnm hargs
  have iX11 : ∀ w ∈ u_ws RX11 TX11 13, w ∈ wsX11_led := by decide +kernel
  have iX9 : ∀ w ∈ u_ws RX9 TX9 11, w ∈ wsX11_led := by decide +kernel
  obtain ⟨hRo, ef, hef, hefi⟩ := id hRm
  refine ax_iload_n hC 1 dX11_led_0 rfl rfl ?_
  refine ax_tableIn (tgt := 64) (off := 63) hC dX11_led_1 (by decide) (by decide) (by decide) (by decide) ?_
  refine ax_aload_n hC 0 dX11_led_64 rfl rfl ?_
  refine ax_getf (v := .ref (o + 41)) hC hO iX11 rfl 10 (by decide) (by decide +kernel) rfl rfl dX11_led_65 ?_
  refine ax_getf (v := .int br) hC hRo iX9 rfl 8 (by decide) (by decide +kernel) rfl rfl dX11_led_68 ?_
  refine ax_iret hC hr hlocks dX11_led_71 ?_
  exact ⟨rfl, rfl, rfl⟩

abbrev rmX11_count : Room := { frames := 0, cells := 0, slots := 0, locals := 0 }
set_option maxRecDepth 100000 in
set_option maxHeartbeats 4000000 in
theorem c_X11_count_1 (l : Launch) (D : va_G) (z : Nat → ClassId) (B : Heap) (lo hi : Nat) (h : Nat → Option va_E) (o : Nat) (on kp : Int32) (sn : Nat) (rm st dn wt br gv ed : Int32) (hO : ObS h o on kp) (hRm : RmS z h (o + 41) (nI sn) rm st dn wt br gv ed) : Met l yX11_count wsX11_count rmX11_count (KP D vwCl B lo hi h (ty6 z) [.ref o, .int 1]) (KQp D vwCl B lo hi h (ty6 z) (fun r => r = nI sn)) 0 0 (fun q => lo ≤ q) := by
  refine ax_met (by decide) rfl (Nat.le_of_ble_eq_true rfl) (L0 := [(0, .ref o), (1, .int 1)]) rfl ?_
  intro p e s m args below meth c hC hr hlocks hnm hargs
  have iX11 : ∀ w ∈ u_ws RX11 TX11 13, w ∈ wsX11_count := by decide +kernel
  have iX9 : ∀ w ∈ u_ws RX9 TX9 11, w ∈ wsX11_count := by decide +kernel
  obtain ⟨hRo, ef, hef, hefi⟩ := id hRm
  refine ax_iload_n hC 1 dX11_count_0 rfl rfl ?_
  refine ax_tableIn (tgt := 49) (off := 48) hC dX11_count_1 (by decide) (by decide) (by decide) (by decide) ?_
  refine ax_aload_n hC 0 dX11_count_49 rfl rfl ?_
  refine ax_getf (v := .ref (o + 41)) hC hO iX11 rfl 10 (by decide) (by decide +kernel) rfl rfl dX11_count_50 ?_
  refine ax_getf (v := .int (nI sn)) hC hRo iX9 rfl 3 (by decide) (by decide +kernel) rfl rfl dX11_count_53 ?_
  refine ax_iret hC hr hlocks dX11_count_56 ?_
  exact ⟨rfl, rfl, rfl⟩

set_option maxRecDepth 100000 in
set_option maxHeartbeats 4000000 in
theorem c_X11_count_2 (l : Launch) (D : va_G) (z : Nat → ClassId) (B : Heap) (lo hi : Nat) (h : Nat → Option va_E) (o : Nat) (on kp : Int32) (hO : ObS h o on kp) : Met l yX11_count wsX11_count rmX11_count (KP D vwCl B lo hi h (ty6 z) [.ref o, .int 2]) (KQp D vwCl B lo hi h (ty6 z) (fun r => r = on)) 0 0 (fun q => lo ≤ q) := by
  refine ax_met (by decide) rfl (Nat.le_of_ble_eq_true rfl) (L0 := [(0, .ref o), (1, .int 2)]) rfl ?_
  intro p e s m args below meth c hC hr hlocks hnm hargs
  have iX11 : ∀ w ∈ u_ws RX11 TX11 13, w ∈ wsX11_count := by decide +kernel
  refine ax_iload_n hC 1 dX11_count_0 rfl rfl ?_
  refine ax_tableIn (tgt := 57) (off := 56) hC dX11_count_1 (by decide) (by decide) (by decide) (by decide) ?_
  refine ax_aload_n hC 0 dX11_count_57 rfl rfl ?_
  refine ax_getf (v := .int on) hC hO iX11 rfl 2 (by decide) (by decide +kernel) rfl rfl dX11_count_58 ?_
  refine ax_iret hC hr hlocks dX11_count_61 ?_
  exact ⟨rfl, rfl, rfl⟩

abbrev rmX11_size : Room := { frames := 0, cells := 0, slots := 0, locals := 0 }
set_option maxRecDepth 100000 in
set_option maxHeartbeats 4000000 in
theorem c_X11_size (l : Launch) (D : va_G) (z : Nat → ClassId) (B : Heap) (lo hi : Nat) (h : Nat → Option va_E) (o : Nat) (on kp : Int32) (sn : Nat) (rm st dn wt br gv ed : Int32) (x : Nat) (hO : ObS h o on kp) (hRm : RmS z h (o + 41) (nI sn) rm st dn wt br gv ed) (hx1 : 1 ≤ x) (hx4 : x ≤ 4) : Met l yX11_size wsX11_size rmX11_size (KP D vwCl B lo hi h (ty6 z) [.ref o, .int (nI x)]) (KQi D vwCl B lo (ty6 z) (fun r hi' h' => r = rm ∧ hi' = hi ∧ (∀ q, ¬ q = o + 41 → h' q = h q) ∧ RmS z h' (o + 41) (nI sn) (nI x) st dn wt br gv ed)) 0 0 (fun q => lo ≤ q) := by
  refine ax_met (by decide) rfl (Nat.le_of_ble_eq_true rfl) (L0 := [(0, .ref o), (1, .int (nI x))]) rfl ?_
  intro p e s m args below meth c hC hr hlocks hnm hargs
  have iX11 : ∀ w ∈ u_ws RX11 TX11 13, w ∈ wsX11_size := by decide +kernel
  have iX9 : ∀ w ∈ u_ws RX9 TX9 11, w ∈ wsX11_size := by decide +kernel
  obtain ⟨hRo, ef, hef, hefi⟩ := id hRm
  refine ax_iload_n hC 1 dX11_size_0 rfl rfl ?_
  refine ax_iconst (v := 1) hC dX11_size_1 (by decide) ?_
  refine ax_icmp_lt (tgt := 10) hC dX11_size_2 (by decide) (fun c1 => ?_) (fun c1 => ?_)
  · exact absurd c1 (nI_nlt (a := x) (b := 1) hx1 (by omega))
  · refine ax_iload_n hC 1 dX11_size_5 rfl rfl ?_
    refine ax_iconst (v := 4) hC dX11_size_6 (by decide) ?_
    refine ax_icmp_le (tgt := 12) hC dX11_size_7 (by decide) (fun c2 => ?_) (fun c2 => ?_)
    · refine ax_aload_n hC 0 dX11_size_12 rfl rfl ?_
      refine ax_getf (v := .ref (o + 41)) hC hO iX11 rfl 10 (by decide) (by decide +kernel) rfl rfl dX11_size_13 ?_
      refine ax_getf (v := .int rm) hC hRo iX9 rfl 4 (by decide) (by decide +kernel) rfl rfl dX11_size_16 ?_
      refine ax_istore_n hC [(2, .int rm), (0, .ref o), (1, .int (nI x))] dX11_size_19 rfl (by decide) rfl ?_
      refine ax_aload_n hC 1 dX11_size_20 rfl rfl ?_
      refine ax_getf (v := .ref (o + 41)) hC hO iX11 rfl 10 (by decide) (by decide +kernel) rfl rfl dX11_size_21 ?_
      refine ax_iload_n hC 2 dX11_size_24 rfl rfl ?_
      refine ax_putf (v := .int (nI x)) (ty := .int) hC tyX9 hRo iX9 tyX9_ok nmX9 rfl 4 (by decide) (by decide +kernel) rfl rfl (by decide +kernel) (rfl) rfl (Nat.le_of_ble_eq_true rfl) dX11_size_25 (fun h3 e4 f5 => ?_)
      have e4 : h3 (o + 41) = some (.inr (11, [.ref (o + 41 + 1), .ref (o + 41 + 2), .ref (o + 41 + 3), .int (nI sn), .int (nI x), .int st, .int dn, .int wt, .int br, .int gv, .int ed])) := e4
      have x6 : h3 o = some (.inr (13, [.ref (o + 1), .ref (o + 2), .int on, .ref (o + 3), .ref (o + 15), .ref (o + 21), .ref (o + 23), .ref (o + 26), .ref (o + 32), .ref (o + 40), .ref (o + 41), .ref (o + 94), .int kp])) := (f5 _ (by omega)).trans hO
      have x7 : h3 (o + 41 + 1) = some (.inl (z 3, 16, .inr (.inr (.inr (.inr (ef)))))) := (f5 _ (by omega)).trans hef
      refine ax_iload_n hC 0 dX11_size_28 rfl rfl ?_
      refine ax_iret hC hr hlocks dX11_size_29 ?_
      exact ⟨rfl, rfl, fun q hq => (f5 q (by omega)), e4, ef, x7, hefi⟩
    · exact absurd (nI_le (a := x) (b := 4) hx4 (by decide)) c2
